/-! the reference's row: what each of its 189 places says. F is a club as before, but F 14 is what each member drank, F 15 what was drunk of each wine; 20: what is owed -/
def cr_a (i : Nat) : Nat := if i < 3 then 0 else if i < 21 then (if (i - 3) % 3 = 0 then 1 else if (i - 3) % 3 = 1 then 20 else 14) else if i < 57 then (if (i - 21) % 6 = 0 then 2 else if (i - 21) % 6 = 1 then 3 else if (i - 21) % 6 = 2 then 4 else if (i - 21) % 6 = 3 then 5 else if (i - 21) % 6 = 4 then 15 else 6) else if i < 81 then (if (i - 57) % 3 = 0 then 11 else if (i - 57) % 3 = 1 then 13 else 12) else 7 + (i - 81) % 3
def cr_j (i : Nat) : Nat := if i < 3 then i else if i < 21 then (i - 3) / 3 else if i < 57 then (i - 21) / 6 else if i < 81 then (i - 57) / 3 else (i - 81) / 3
def cr_row (f : Nat → Int32) (F : ce_V) (O : Nat → Int32) : Prop := ∀ i, i < 189 → f i = if cr_a i = 20 then O (cr_j i) else nI (F (cr_a i) (cr_j i))
theorem cr_inj : ∀ i, i < 189 → ∀ j, j < 189 → cr_a i = cr_a j → cr_j i = cr_j j → i = j := by decide +kernel
theorem cr_row.g {f : Nat → Int32} {F : ce_V} {O : Nat → Int32} (h : cr_row f F O) {i a j : Nat} (hi : i < 189) (e : cr_a i = a ∧ cr_j i = j) (h20 : a ≠ 20) : f i = nI (F a j) := by
  obtain ⟨rfl, rfl⟩ := e
  rw [h i hi, if_neg h20]
theorem cr_row.go {f : Nat → Int32} {F : ce_V} {O : Nat → Int32} (h : cr_row f F O) {i j : Nat} (hi : i < 189) (e : cr_a i = 20 ∧ cr_j i = j) : f i = O j := by
  obtain ⟨e, rfl⟩ := e
  rw [h i hi, if_pos e]
theorem cr_row.u {f : Nat → Int32} {F : ce_V} {O : Nat → Int32} (h : cr_row f F O) {i a j : Nat} (hi : i < 189) (e : cr_a i = a ∧ cr_j i = j) (h20 : a ≠ 20) (v : Nat) : cr_row (upd f i (nI v)) (kv_up F a j v) O := by
  obtain ⟨rfl, rfl⟩ := e
  intro x hx
  unfold upd
  by_cases q : x = i
  · rw [if_pos q, q, if_neg h20, kv_up_eq]
  · rw [if_neg q, h x hx]
    by_cases q2 : cr_a x = 20
    · rw [if_pos q2, if_pos q2]
    · rw [if_neg q2, if_neg q2]
      unfold kv_up
      rw [if_neg (fun e => q (cr_inj x hx i hi e.1 e.2))]
theorem cr_row.uo {f : Nat → Int32} {F : ce_V} {O : Nat → Int32} (h : cr_row f F O) {i j : Nat} (hi : i < 189) (e : cr_a i = 20 ∧ cr_j i = j) (v : Int32) : cr_row (upd f i v) F (upd O j v) := by
  obtain ⟨e1, rfl⟩ := e
  intro x hx
  unfold upd
  by_cases q : x = i
  · rw [if_pos q, q, if_pos e1, if_pos rfl]
  · rw [if_neg q, h x hx]
    by_cases q2 : cr_a x = 20
    · rw [if_pos q2, if_pos q2, if_neg (fun e => q (cr_inj x hx i hi (q2.trans e1.symm) e))]
    · rw [if_neg q2, if_neg q2]
theorem cr_a_ne : ∀ i, i < 189 → cr_a i = 15 → cr_j i < 6 := by decide +kernel
theorem cr_a_10 : ∀ i, i < 189 → cr_a i ≠ 10 := by decide +kernel
/-- two clubs that agree where the row says something -/
theorem cr_row.cg {f : Nat → Int32} {F F1 : ce_V} {O O1 : Nat → Int32} (h : cr_row f F O) (e : ∀ a j, a ≠ 10 → a ≠ 15 → F1 a j = F a j) (e15 : ∀ j, j < 6 → F1 15 j = F 15 j) (eo : ∀ j, O1 j = O j) : cr_row f F1 O1 := by
  intro i hi
  rw [h i hi]
  by_cases q : cr_a i = 20
  · rw [if_pos q, if_pos q, eo]
  · rw [if_neg q, if_neg q]
    by_cases q2 : cr_a i = 15
    · rw [q2, e15 _ (cr_a_ne i hi q2)]
    · rw [e _ _ (cr_a_10 i hi) q2]
theorem cr_row.eq {f f1 : Nat → Int32} {F : ce_V} {O : Nat → Int32} (h : cr_row f F O) (e : ∀ i, i < 189 → f1 i = f i) : cr_row f1 F O := fun i hi => (e i hi).trans (h i hi)
theorem cr_row.c0 {f : Nat → Int32} {F : ce_V} {O : Nat → Int32} (h : cr_row f F O) : f 0 = nI (F 0 0) := h.g (by decide) ⟨rfl, rfl⟩ (by decide)
theorem cr_row.uc0 {f : Nat → Int32} {F : ce_V} {O : Nat → Int32} (h : cr_row f F O) (v : Nat) : cr_row (upd f 0 (nI v)) (kv_up F 0 0 v) O := h.u (by decide) ⟨rfl, rfl⟩ (by decide) v
theorem cr_row.c1 {f : Nat → Int32} {F : ce_V} {O : Nat → Int32} (h : cr_row f F O) : f 1 = nI (F 0 1) := h.g (by decide) ⟨rfl, rfl⟩ (by decide)
theorem cr_row.uc1 {f : Nat → Int32} {F : ce_V} {O : Nat → Int32} (h : cr_row f F O) (v : Nat) : cr_row (upd f 1 (nI v)) (kv_up F 0 1 v) O := h.u (by decide) ⟨rfl, rfl⟩ (by decide) v
theorem cr_row.c2 {f : Nat → Int32} {F : ce_V} {O : Nat → Int32} (h : cr_row f F O) : f 2 = nI (F 0 2) := h.g (by decide) ⟨rfl, rfl⟩ (by decide)
theorem cr_row.uc2 {f : Nat → Int32} {F : ce_V} {O : Nat → Int32} (h : cr_row f F O) (v : Nat) : cr_row (upd f 2 (nI v)) (kv_up F 0 2 v) O := h.u (by decide) ⟨rfl, rfl⟩ (by decide) v
theorem cr_m0 : ∀ m, m < 6 → cr_a (3 + 3 * m) = 1 ∧ cr_j (3 + 3 * m) = m := by decide +kernel
theorem cr_row.m0 {f : Nat → Int32} {F : ce_V} {O : Nat → Int32} (h : cr_row f F O) {m : Nat} (hm : m < 6) : f (3 + 3 * m) = nI (F 1 m) := h.g (by omega) (cr_m0 m hm) (by decide)
theorem cr_row.um0 {f : Nat → Int32} {F : ce_V} {O : Nat → Int32} (h : cr_row f F O) {m : Nat} (hm : m < 6) (v : Nat) : cr_row (upd f (3 + 3 * m) (nI v)) (kv_up F 1 m v) O := h.u (by omega) (cr_m0 m hm) (by decide) v
theorem cr_m1 : ∀ m, m < 6 → cr_a (3 + 3 * m + 1) = 20 ∧ cr_j (3 + 3 * m + 1) = m := by decide +kernel
theorem cr_row.m1 {f : Nat → Int32} {F : ce_V} {O : Nat → Int32} (h : cr_row f F O) {m : Nat} (hm : m < 6) : f (3 + 3 * m + 1) = O m := h.go (by omega) (cr_m1 m hm)
theorem cr_row.um1 {f : Nat → Int32} {F : ce_V} {O : Nat → Int32} (h : cr_row f F O) {m : Nat} (hm : m < 6) (v : Int32) : cr_row (upd f (3 + 3 * m + 1) v) F (upd O m v) := h.uo (by omega) (cr_m1 m hm) v
theorem cr_m2 : ∀ m, m < 6 → cr_a (3 + 3 * m + 2) = 14 ∧ cr_j (3 + 3 * m + 2) = m := by decide +kernel
theorem cr_row.m2 {f : Nat → Int32} {F : ce_V} {O : Nat → Int32} (h : cr_row f F O) {m : Nat} (hm : m < 6) : f (3 + 3 * m + 2) = nI (F 14 m) := h.g (by omega) (cr_m2 m hm) (by decide)
theorem cr_row.um2 {f : Nat → Int32} {F : ce_V} {O : Nat → Int32} (h : cr_row f F O) {m : Nat} (hm : m < 6) (v : Nat) : cr_row (upd f (3 + 3 * m + 2) (nI v)) (kv_up F 14 m v) O := h.u (by omega) (cr_m2 m hm) (by decide) v
theorem cr_w0 : ∀ w, w < 6 → cr_a (21 + 6 * w) = 2 ∧ cr_j (21 + 6 * w) = w := by decide +kernel
theorem cr_row.w0 {f : Nat → Int32} {F : ce_V} {O : Nat → Int32} (h : cr_row f F O) {w : Nat} (hw : w < 6) : f (21 + 6 * w) = nI (F 2 w) := h.g (by omega) (cr_w0 w hw) (by decide)
theorem cr_row.uw0 {f : Nat → Int32} {F : ce_V} {O : Nat → Int32} (h : cr_row f F O) {w : Nat} (hw : w < 6) (v : Nat) : cr_row (upd f (21 + 6 * w) (nI v)) (kv_up F 2 w v) O := h.u (by omega) (cr_w0 w hw) (by decide) v
theorem cr_w1 : ∀ w, w < 6 → cr_a (21 + 6 * w + 1) = 3 ∧ cr_j (21 + 6 * w + 1) = w := by decide +kernel
theorem cr_row.w1 {f : Nat → Int32} {F : ce_V} {O : Nat → Int32} (h : cr_row f F O) {w : Nat} (hw : w < 6) : f (21 + 6 * w + 1) = nI (F 3 w) := h.g (by omega) (cr_w1 w hw) (by decide)
theorem cr_row.uw1 {f : Nat → Int32} {F : ce_V} {O : Nat → Int32} (h : cr_row f F O) {w : Nat} (hw : w < 6) (v : Nat) : cr_row (upd f (21 + 6 * w + 1) (nI v)) (kv_up F 3 w v) O := h.u (by omega) (cr_w1 w hw) (by decide) v
theorem cr_w2 : ∀ w, w < 6 → cr_a (21 + 6 * w + 2) = 4 ∧ cr_j (21 + 6 * w + 2) = w := by decide +kernel
theorem cr_row.w2 {f : Nat → Int32} {F : ce_V} {O : Nat → Int32} (h : cr_row f F O) {w : Nat} (hw : w < 6) : f (21 + 6 * w + 2) = nI (F 4 w) := h.g (by omega) (cr_w2 w hw) (by decide)
theorem cr_row.uw2 {f : Nat → Int32} {F : ce_V} {O : Nat → Int32} (h : cr_row f F O) {w : Nat} (hw : w < 6) (v : Nat) : cr_row (upd f (21 + 6 * w + 2) (nI v)) (kv_up F 4 w v) O := h.u (by omega) (cr_w2 w hw) (by decide) v
theorem cr_w3 : ∀ w, w < 6 → cr_a (21 + 6 * w + 3) = 5 ∧ cr_j (21 + 6 * w + 3) = w := by decide +kernel
theorem cr_row.w3 {f : Nat → Int32} {F : ce_V} {O : Nat → Int32} (h : cr_row f F O) {w : Nat} (hw : w < 6) : f (21 + 6 * w + 3) = nI (F 5 w) := h.g (by omega) (cr_w3 w hw) (by decide)
theorem cr_row.uw3 {f : Nat → Int32} {F : ce_V} {O : Nat → Int32} (h : cr_row f F O) {w : Nat} (hw : w < 6) (v : Nat) : cr_row (upd f (21 + 6 * w + 3) (nI v)) (kv_up F 5 w v) O := h.u (by omega) (cr_w3 w hw) (by decide) v
theorem cr_w4 : ∀ w, w < 6 → cr_a (21 + 6 * w + 4) = 15 ∧ cr_j (21 + 6 * w + 4) = w := by decide +kernel
theorem cr_row.w4 {f : Nat → Int32} {F : ce_V} {O : Nat → Int32} (h : cr_row f F O) {w : Nat} (hw : w < 6) : f (21 + 6 * w + 4) = nI (F 15 w) := h.g (by omega) (cr_w4 w hw) (by decide)
theorem cr_row.uw4 {f : Nat → Int32} {F : ce_V} {O : Nat → Int32} (h : cr_row f F O) {w : Nat} (hw : w < 6) (v : Nat) : cr_row (upd f (21 + 6 * w + 4) (nI v)) (kv_up F 15 w v) O := h.u (by omega) (cr_w4 w hw) (by decide) v
theorem cr_w5 : ∀ w, w < 6 → cr_a (21 + 6 * w + 5) = 6 ∧ cr_j (21 + 6 * w + 5) = w := by decide +kernel
theorem cr_row.w5 {f : Nat → Int32} {F : ce_V} {O : Nat → Int32} (h : cr_row f F O) {w : Nat} (hw : w < 6) : f (21 + 6 * w + 5) = nI (F 6 w) := h.g (by omega) (cr_w5 w hw) (by decide)
theorem cr_row.uw5 {f : Nat → Int32} {F : ce_V} {O : Nat → Int32} (h : cr_row f F O) {w : Nat} (hw : w < 6) (v : Nat) : cr_row (upd f (21 + 6 * w + 5) (nI v)) (kv_up F 6 w v) O := h.u (by omega) (cr_w5 w hw) (by decide) v
theorem cr_b0 : ∀ b, b < 8 → cr_a (57 + 3 * b) = 11 ∧ cr_j (57 + 3 * b) = b := by decide +kernel
theorem cr_row.b0 {f : Nat → Int32} {F : ce_V} {O : Nat → Int32} (h : cr_row f F O) {b : Nat} (hb : b < 8) : f (57 + 3 * b) = nI (F 11 b) := h.g (by omega) (cr_b0 b hb) (by decide)
theorem cr_row.ub0 {f : Nat → Int32} {F : ce_V} {O : Nat → Int32} (h : cr_row f F O) {b : Nat} (hb : b < 8) (v : Nat) : cr_row (upd f (57 + 3 * b) (nI v)) (kv_up F 11 b v) O := h.u (by omega) (cr_b0 b hb) (by decide) v
theorem cr_b1 : ∀ b, b < 8 → cr_a (57 + 3 * b + 1) = 13 ∧ cr_j (57 + 3 * b + 1) = b := by decide +kernel
theorem cr_row.b1 {f : Nat → Int32} {F : ce_V} {O : Nat → Int32} (h : cr_row f F O) {b : Nat} (hb : b < 8) : f (57 + 3 * b + 1) = nI (F 13 b) := h.g (by omega) (cr_b1 b hb) (by decide)
theorem cr_row.ub1 {f : Nat → Int32} {F : ce_V} {O : Nat → Int32} (h : cr_row f F O) {b : Nat} (hb : b < 8) (v : Nat) : cr_row (upd f (57 + 3 * b + 1) (nI v)) (kv_up F 13 b v) O := h.u (by omega) (cr_b1 b hb) (by decide) v
theorem cr_b2 : ∀ b, b < 8 → cr_a (57 + 3 * b + 2) = 12 ∧ cr_j (57 + 3 * b + 2) = b := by decide +kernel
theorem cr_row.b2 {f : Nat → Int32} {F : ce_V} {O : Nat → Int32} (h : cr_row f F O) {b : Nat} (hb : b < 8) : f (57 + 3 * b + 2) = nI (F 12 b) := h.g (by omega) (cr_b2 b hb) (by decide)
theorem cr_row.ub2 {f : Nat → Int32} {F : ce_V} {O : Nat → Int32} (h : cr_row f F O) {b : Nat} (hb : b < 8) (v : Nat) : cr_row (upd f (57 + 3 * b + 2) (nI v)) (kv_up F 12 b v) O := h.u (by omega) (cr_b2 b hb) (by decide) v
theorem cr_h0 : ∀ m, m < 6 → ∀ w, w < 6 → cr_a (81 + 18 * m + 3 * w) = 7 ∧ cr_j (81 + 18 * m + 3 * w) = (m * 6 + w) := by decide +kernel
theorem cr_row.h0 {f : Nat → Int32} {F : ce_V} {O : Nat → Int32} (h : cr_row f F O) {m w : Nat} (hm : m < 6) (hw : w < 6) : f (81 + 18 * m + 3 * w) = nI (F 7 (m * 6 + w)) := h.g (by omega) (cr_h0 m hm w hw) (by decide)
theorem cr_row.uh0 {f : Nat → Int32} {F : ce_V} {O : Nat → Int32} (h : cr_row f F O) {m w : Nat} (hm : m < 6) (hw : w < 6) (v : Nat) : cr_row (upd f (81 + 18 * m + 3 * w) (nI v)) (kv_up F 7 (m * 6 + w) v) O := h.u (by omega) (cr_h0 m hm w hw) (by decide) v
theorem cr_h1 : ∀ m, m < 6 → ∀ w, w < 6 → cr_a (81 + 18 * m + 3 * w + 1) = 8 ∧ cr_j (81 + 18 * m + 3 * w + 1) = (m * 6 + w) := by decide +kernel
theorem cr_row.h1 {f : Nat → Int32} {F : ce_V} {O : Nat → Int32} (h : cr_row f F O) {m w : Nat} (hm : m < 6) (hw : w < 6) : f (81 + 18 * m + 3 * w + 1) = nI (F 8 (m * 6 + w)) := h.g (by omega) (cr_h1 m hm w hw) (by decide)
theorem cr_row.uh1 {f : Nat → Int32} {F : ce_V} {O : Nat → Int32} (h : cr_row f F O) {m w : Nat} (hm : m < 6) (hw : w < 6) (v : Nat) : cr_row (upd f (81 + 18 * m + 3 * w + 1) (nI v)) (kv_up F 8 (m * 6 + w) v) O := h.u (by omega) (cr_h1 m hm w hw) (by decide) v
theorem cr_h2 : ∀ m, m < 6 → ∀ w, w < 6 → cr_a (81 + 18 * m + 3 * w + 2) = 9 ∧ cr_j (81 + 18 * m + 3 * w + 2) = (m * 6 + w) := by decide +kernel
theorem cr_row.h2 {f : Nat → Int32} {F : ce_V} {O : Nat → Int32} (h : cr_row f F O) {m w : Nat} (hm : m < 6) (hw : w < 6) : f (81 + 18 * m + 3 * w + 2) = nI (F 9 (m * 6 + w)) := h.g (by omega) (cr_h2 m hm w hw) (by decide)
theorem cr_row.uh2 {f : Nat → Int32} {F : ce_V} {O : Nat → Int32} (h : cr_row f F O) {m w : Nat} (hm : m < 6) (hw : w < 6) (v : Nat) : cr_row (upd f (81 + 18 * m + 3 * w + 2) (nI v)) (kv_up F 9 (m * 6 + w) v) O := h.u (by omega) (cr_h2 m hm w hw) (by decide) v
/-- the class' club as the reference's row has it -/
def kq (K : ce_V) : ce_V := fun a j => if a = 14 then ce_sum (fun w => K 10 (j * 6 + w)) 6 else if a = 15 then kv_sum K 10 j else K a j
theorem kq_ne {K : ce_V} {a : Nat} (h : a ≠ 14 ∧ a ≠ 15) : kq K a = K a := by
  funext j
  unfold kq
  rw [if_neg h.1, if_neg h.2]
theorem kq_14 {K : ce_V} {j : Nat} : kq K 14 j = ce_sum (fun w => K 10 (j * 6 + w)) 6 := if_pos rfl
theorem kq_15 {K : ce_V} {j : Nat} : kq K 15 j = kv_sum K 10 j := (if_neg (by decide)).trans (if_pos rfl)
theorem kq_up {K : ce_V} {a i v : Nat} (h : a ≠ 10 ∧ a ≠ 14 ∧ a ≠ 15) : kq (kv_up K a i v) = kv_up (kq K) a i v := by
  funext b j
  by_cases q : b = a ∧ j = i
  · obtain ⟨rfl, rfl⟩ := q
    rw [kv_up_eq, kq_ne h.2, kv_up_eq]
  · have e : kv_up (kq K) a i v b j = kq K b j := if_neg q
    rw [e]
    unfold kq kv_sum
    have e10 : kv_up K a i v 10 = K 10 := kv_up_ne (Ne.symm h.1)
    rw [e10]
    have e2 : kv_up K a i v b j = K b j := if_neg q
    rw [e2]
theorem kq_put {K : ce_V} {b w n : Nat} : kq (kv_put K b w n) = kv_put (kq K) b w n := by
  unfold kv_put
  rw [kq_up (by decide), kq_up (by decide), kq_ne (K := K) (a := 12) (by decide)]
theorem kq_rem {K : ce_V} {b n : Nat} : kq (kv_rem K b n) = kv_rem (kq K) b n := by
  unfold kv_rem
  rw [kq_up (by decide), kq_ne (K := K) (a := 12) (by decide)]
theorem kq_fill {K : ce_V} {w : Nat} : ∀ n, kv_fill (kq K) w n = kv_fill K w n
  | 0 => rfl
  | n + 1 => by
    unfold kv_fill
    rw [kq_fill n, kq_ne (a := 11) (by decide), kq_ne (a := 12) (by decide), kq_ne (a := 13) (by decide)]
theorem kq_eb {K : ce_V} {q : Nat} : ∀ n, kv_eb (kq K) q n = kv_eb K q n
  | 0 => rfl
  | n + 1 => by
    unfold kv_eb
    rw [kq_eb n, kq_ne (a := 11) (by decide), kq_ne (a := 12) (by decide)]
theorem kq_tf {K : ce_V} {w : Nat} : ∀ n, kv_tf (kq K) w n = kv_tf K w n
  | 0 => rfl
  | n + 1 => by
    unfold kv_tf
    rw [kq_tf n, kq_ne (a := 12) (by decide), kq_ne (a := 13) (by decide)]
theorem kq_lay {w : Nat} : ∀ {t n : Nat} {K : ce_V}, kq (kv_lay w t n K) = kv_lay w t n (kq K)
  | 0, _, _ => rfl
  | t + 1, n, K => by
    unfold kv_lay
    rw [kq_ne (a := 0) (by decide), kq_fill, kq_eb, kq_ne (a := 11) (by decide), kq_ne (a := 12) (by decide)]
    by_cases q : n = 0
    · rw [if_pos q, if_pos q]
    · rw [if_neg q, if_neg q]
      cases (kv_fill K w (K 0 2)).or (kv_eb K n (K 0 2)) with
      | none => rfl
      | some b => dsimp only; rw [kq_lay, kq_put]
theorem kq_take {w : Nat} : ∀ {t n : Nat} {K : ce_V}, kq (kv_take w t n K) = kv_take w t n (kq K)
  | 0, _, _ => rfl
  | t + 1, n, K => by
    unfold kv_take
    rw [kq_ne (a := 0) (by decide), kq_tf, kq_ne (a := 12) (by decide)]
    by_cases q : n = 0
    · rw [if_pos q, if_pos q]
    · rw [if_neg q, if_neg q]
      cases kv_tf K w (K 0 2) with
      | none => rfl
      | some b => dsimp only; rw [kq_take, kq_rem]
theorem kq_rk {K : ce_V} (h : kv_rk K) : kv_rk (kq K) := by
  unfold kv_rk
  rw [kq_ne (a := 0) (by decide), kq_ne (a := 11) (by decide), kq_ne (a := 12) (by decide), kq_ne (a := 13) (by decide)]
  exact h
