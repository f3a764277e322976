/-! what is true of every club besides: no orders for a wine that isn't open, no corked bottle of one that isn't delivered, how much can be owed -/
theorem kj_add {x y : Int32} (h1 : -2147483648 ≤ x.toInt + y.toInt) (h2 : x.toInt + y.toInt < 2147483648) : (x + y).toInt = x.toInt + y.toInt := by
  rw [Int32.toInt_add]
  exact Int.bmod_eq_of_le (by omega) (by omega)
theorem kj_sub {x y : Int32} (h1 : -2147483648 ≤ x.toInt - y.toInt) (h2 : x.toInt - y.toInt < 2147483648) : (x - y).toInt = x.toInt - y.toInt := by
  rw [Int32.toInt_sub]
  exact Int.bmod_eq_of_le (by omega) (by omega)
def kj (K : ce_V) (O : Nat → Int32) : Prop :=
  ((∀ w, w < 6 → K 5 w ≠ 0 → ∀ m, m < 6 → K 7 (m * 6 + w) = 0) ∧ (∀ w, w < 6 → K 5 w ≠ 2 → K 6 w = 0)) ∧
  ∀ m, m < 6 → -(99 * (ce_sum (K 6) 6 : Int)) ≤ (O m).toInt ∧ (O m).toInt ≤ 5940 * (ce_sum (K 5) 6 : Int)
theorem kj.same {K K2 : ce_V} {O : Nat → Int32} (h : kj K O) (h5 : K2 5 = K 5) (h6 : K2 6 = K 6) (h7 : K2 7 = K 7) : kj K2 O := by
  unfold kj
  rw [h5, h6, h7]
  exact h
theorem kj_s5 {K : ce_V} (h : kv_cl K) : ce_sum (K 5) 6 ≤ 12 := ce_sum_le2 (f1 := fun _ => 2) (fun j _ => h.st j)
theorem kj_s6 {K : ce_V} (h : kv_cl K) : ce_sum (K 6) 6 ≤ 360 := ce_sum_le2 (f1 := fun _ => 60) (fun j hj => by have := h.bo j hj; omega)
/-- how much is owed -/
theorem kj.o {K : ce_V} {O : Nat → Int32} (h : kj K O) (hk : kv_cl K) {m : Nat} (hm : m < 6) : -35640 ≤ (O m).toInt ∧ (O m).toInt ≤ 71280 := by
  have h1 := h.2 m hm
  have h2 := kj_s5 hk
  have h3 := kj_s6 hk
  omega
theorem kj_enr {K : ce_V} {O : Nat → Int32} {p : Nat} (h : kj K O) : kj (kv_enr K p) O := by
  have er : ∀ a, a ≠ 0 ∧ a ≠ 1 → kv_enr K p a = K a := fun a q => by unfold kv_enr; rw [kv_up_ne q.1, kv_up_ne q.2]
  exact h.same (er 5 (by decide)) (er 6 (by decide)) (er 7 (by decide))
theorem kj_off {K : ce_V} {O : Nat → Int32} {p n : Nat} (h : kj K O) : kj (kv_off K p n) O := by
  have er : ∀ a, a ≠ 0 ∧ a ≠ 2 ∧ a ≠ 3 ∧ a ≠ 4 → kv_off K p n a = K a := fun a q => by unfold kv_off; rw [kv_up_ne q.1, kv_up_ne q.2.2.2, kv_up_ne q.2.2.1, kv_up_ne q.2.1]
  exact h.same (er 5 (by decide)) (er 6 (by decide)) (er 7 (by decide))
theorem kj_inst {K : ce_V} {O : Nat → Int32} {n : Nat} (h : kj K O) : kj (kv_inst K n) O := by
  have er : ∀ a, a ≠ 0 ∧ a ≠ 11 → kv_inst K n a = K a := fun a q => funext fun j => kv_inst_0 (Or.inl q.1) q.2
  exact h.same (er 5 (by decide)) (er 6 (by decide)) (er 7 (by decide))
theorem kj_car {K : ce_V} {O : Nat → Int32} {a b n : Nat} (h : kj K O) : kj (kv_car K a b n) O := by
  have er : ∀ i, i ≠ 12 ∧ i ≠ 13 → kv_car K a b n i = K i := fun i q => funext fun j => (kv_rem_0 q.1).trans (kv_put_0 q.1 q.2)
  exact h.same (er 5 (by decide)) (er 6 (by decide)) (er 7 (by decide))
theorem kj_han {K : ce_V} {O : Nat → Int32} {m o w n : Nat} (h : kj K O) : kj (kv_han K m o w n) O := by
  have er : ∀ i, i ≠ 9 → kv_han K m o w n i = K i := fun i q => by unfold kv_han; rw [kv_up_ne q, kv_up_ne q]
  exact h.same (er 5 (by decide)) (er 6 (by decide)) (er 7 (by decide))
theorem kv_take_r {w t n a : Nat} {K : ce_V} (h : a ≠ 12) : kv_take w t n K a = K a := funext fun _ => kv_take_ne h
theorem kv_lay_r {w t n a : Nat} {K : ce_V} (h : a ≠ 12) (h2 : a ≠ 13) : kv_lay w t n K a = K a := funext fun _ => kv_lay_ne h h2
theorem kj_dri {K : ce_V} {O : Nat → Int32} {m w n : Nat} (h : kj K O) : kj (kv_dri K m w n) O := by
  have er : ∀ i, i ≠ 9 ∧ i ≠ 10 ∧ i ≠ 12 → kv_dri K m w n i = K i := fun i q => by unfold kv_dri; rw [kv_up_ne q.2.1, kv_up_ne q.1, kv_take_r q.2.2]
  exact h.same (er 5 (by decide)) (er 6 (by decide)) (er 7 (by decide))
theorem kj_ord {K : ce_V} {O : Nat → Int32} {m w n : Nat} (h : kj K O) (hw : w < 6) (h5 : K 5 w = 0) : kj (kv_ord K m w n) O := by
  have er : ∀ a, a ≠ 7 → kv_ord K m w n a = K a := fun a q => kv_up_ne q
  obtain ⟨⟨h1, h2⟩, h3⟩ := h
  unfold kj
  rw [er 5 (by decide), er 6 (by decide)]
  refine ⟨⟨fun v hv h0 j hj => ?_, h2⟩, h3⟩
  have : v ≠ w := fun e => h0 (e ▸ h5)
  unfold kv_ord
  rw [kv_up_a, if_neg (by omega)]
  exact h1 v hv h0 j hj
theorem kj_pay {K : ce_V} {O : Nat → Int32} {m : Nat} (h : kj K O) : kj K (upd O m 0) := by
  refine ⟨h.1, fun j hj => ?_⟩
  unfold upd
  split
  · rw [show (0 : Int32).toInt = 0 from by decide]
    omega
  · exact h.2 j hj
/-- an allocation -/
theorem kv_all_5 {K : ce_V} {w j : Nat} : kv_all K w 5 j = if j = w then 1 else K 5 j := by
  unfold kv_all
  rw [kv_up_a, kv_end_ne (by decide), kv_share_ne (by decide)]
theorem kv_all_ne {K : ce_V} {w a j : Nat} (h : a ≠ 1 ∧ a ≠ 4 ∧ a ≠ 5 ∧ a ≠ 7 ∧ a ≠ 8) : kv_all K w a j = K a j := by
  unfold kv_all
  rw [kv_up_ne h.2.2.1, kv_end_ne ⟨h.1, h.2.2.2.1⟩, kv_share_ne ⟨h.2.1, h.2.2.2.2⟩]
theorem kv_all_7 {K : ce_V} {w v m : Nat} (hw : w < 6) (hv : v < 6) : kv_all K w 7 (m * 6 + v) = if v = w ∧ m < K 0 0 then 0 else K 7 (m * 6 + v) := by
  unfold kv_all
  rw [kv_up_ne (by decide), kv_end_7b hw hv, kv_share_ne (by decide)]
theorem kv_half_le {p n : Nat} (hp : p ≤ 99) (hn : n ≤ 60) : (p * n + 1) / 2 ≤ 2970 ∧ (p * n + 1) / 2 ≤ p * n ∧ p * n ≤ 5940 := by
  have h1 : p * n ≤ 99 * 60 := Nat.mul_le_mul hp hn
  refine ⟨by omega, ?_, h1⟩
  rcases Nat.eq_zero_or_pos (p * n) with e | e <;> omega
theorem ko_all_i {K : ce_V} {O : Nat → Int32} {w m : Nat} (h : kv_cl K) (hj : kj K O) (hw : w < 6) (h5 : K 5 w = 0) (hm : m < 6) : (ko_all K w O m).toInt = (O m).toInt + (if m < K 0 0 then ((K 2 w * kv_all K w 8 (m * 6 + w) + 1) / 2 : Nat) else 0 : Nat) := by
  unfold ko_all ko_end
  by_cases e : m < K 0 0
  · rw [if_pos e, if_pos e]
    have h1 := kv_half_le (h.pr w) (kv_all_8 h hw m)
    have h2 := hj.o h hm
    unfold kv_half
    rw [kv_share_ne (by decide), ← kv_all_8e]
    rw [kj_add (by rw [nI_toInt (by omega)]; omega) (by rw [nI_toInt (by omega)]; omega), nI_toInt (by omega)]
  · rw [if_neg e, if_neg e]
    omega
theorem kv_all_s5 {K : ce_V} {w : Nat} (hw : w < 6) (h5 : K 5 w = 0) : ce_sum (kv_all K w 5) 6 = ce_sum (K 5) 6 + 1 := by
  have := ce_sum_up (f := K 5) (f1 := kv_all K w 5) (n := 6) (m := w) hw (fun j _ hne => by rw [kv_all_5, if_neg hne])
  rw [kv_all_5, if_pos rfl, h5] at this
  omega
theorem kj_all {K : ce_V} {O : Nat → Int32} {w : Nat} (hj : kj K O) (h : kv_cl K) (hw : w < 6) (h5 : K 5 w = 0) : kj (kv_all K w) (ko_all K w O) := by
  have e6 : kv_all K w 6 = K 6 := funext fun _ => kv_all_ne (by decide)
  refine ⟨⟨fun v hv h0 m hm => ?_, fun v hv h0 => ?_⟩, fun m hm => ?_⟩
  · rw [kv_all_7 hw hv]
    by_cases e : v = w
    · subst e
      by_cases q : m < K 0 0
      · rw [if_pos ⟨rfl, q⟩]
      · rw [if_neg (fun z => q z.2)]
        exact (h.zm m v hv (by omega)).2.1
    · rw [if_neg (fun z => e z.1)]
      rw [kv_all_5, if_neg e] at h0
      exact hj.1.1 v hv h0 m hm
  · rw [e6]
    rw [kv_all_5] at h0
    by_cases e : v = w
    · subst e
      exact hj.1.2 v hv (by omega)
    · rw [if_neg e] at h0
      exact hj.1.2 v hv h0
  · rw [ko_all_i h hj hw h5 hm, kv_all_s5 hw h5, e6]
    have h1 := kv_half_le (h.pr w) (kv_all_8 h hw m)
    have h2 := hj.2 m hm
    split <;> omega
/-- a delivery -/
theorem kv_bri_5 {K : ce_V} {w j : Nat} : kv_bri K w 5 j = if j = w then 2 else K 5 j := by
  unfold kv_bri
  rw [kv_up_a, kv_del_ne (by decide), kv_lay_ne (by decide) (by decide)]
theorem kv_bri_ne {K : ce_V} {w a j : Nat} (h : a ≠ 5 ∧ a ≠ 8 ∧ a ≠ 9 ∧ a ≠ 12 ∧ a ≠ 13) : kv_bri K w a j = K a j := by
  unfold kv_bri
  rw [kv_up_ne h.1, kv_del_ne ⟨h.2.1, h.2.2.1⟩, kv_lay_ne h.2.2.2.1 h.2.2.2.2]
theorem ko_bri_i {K : ce_V} {O : Nat → Int32} {w m : Nat} (h : kv_cl K) (hj : kj K O) (hw : w < 6) (hm : m < 6) : (ko_bri K w O m).toInt = (O m).toInt + (if m < K 0 0 then (K 2 w * K 8 (m * 6 + w) - (K 2 w * K 8 (m * 6 + w) + 1) / 2 : Nat) else 0 : Nat) := by
  unfold ko_bri ko_del
  by_cases e : m < K 0 0
  · rw [if_pos e, if_pos e]
    have h1 := kv_half_le (h.pr w) (h.le hm hw).1
    have h2 := hj.o h hm
    unfold kv_half
    rw [kj_add (by rw [nI_toInt (by omega)]; omega) (by rw [nI_toInt (by omega)]; omega), nI_toInt (by omega)]
  · rw [if_neg e, if_neg e]
    omega
theorem kj_bri {K : ce_V} {O : Nat → Int32} {w : Nat} (hj : kj K O) (h : kv_cl K) (hw : w < 6) (h5 : K 5 w = 1) : kj (kv_bri K w) (ko_bri K w O) := by
  have e6 : kv_bri K w 6 = K 6 := funext fun _ => kv_bri_ne (by decide)
  have e7 : kv_bri K w 7 = K 7 := funext fun _ => kv_bri_ne (by decide)
  have es : ce_sum (kv_bri K w 5) 6 = ce_sum (K 5) 6 + 1 := by
    have := ce_sum_up (f := K 5) (f1 := kv_bri K w 5) (n := 6) (m := w) hw (fun j _ hne => by rw [kv_bri_5, if_neg hne])
    rw [kv_bri_5, if_pos rfl, h5] at this
    omega
  refine ⟨⟨fun v hv h0 m hm => ?_, fun v hv h0 => ?_⟩, fun m hm => ?_⟩
  · rw [e7]
    refine hj.1.1 v hv (fun z => ?_) m hm
    by_cases e : v = w
    · subst e; omega
    · rw [kv_bri_5, if_neg e] at h0
      exact h0 z
  · rw [e6]
    rw [kv_bri_5] at h0
    by_cases e : v = w
    · rw [if_pos e] at h0; exact absurd rfl h0
    · rw [if_neg e] at h0
      exact hj.1.2 v hv h0
  · rw [ko_bri_i h hj hw hm, es, e6]
    have h1 := kv_half_le (h.pr w) (h.le hm hw).1
    have h2 := hj.2 m hm
    split <;> omega
/-- a corked bottle -/
theorem kv_cor_6 {K : ce_V} {m w j : Nat} : kv_cor K m w 6 j = if j = w then K 6 w + 1 else K 6 j := by
  unfold kv_cor kv_cor1 kv_crk
  split
  · rw [kv_lay_ne (by decide) (by decide), kv_up_ne (by decide), kv_up_a, kv_take_ne (by decide)]
  · rw [kv_up_ne (by decide), kv_up_a, kv_take_ne (by decide)]
theorem kv_cor_ne {K : ce_V} {m w a j : Nat} (h : a ≠ 4 ∧ a ≠ 6 ∧ a ≠ 9 ∧ a ≠ 12 ∧ a ≠ 13) : kv_cor K m w a j = K a j := by
  unfold kv_cor kv_cor1 kv_crk
  split
  · rw [kv_lay_ne h.2.2.2.1 h.2.2.2.2, kv_up_ne h.1, kv_up_ne h.2.1, kv_take_ne h.2.2.2.1]
  · rw [kv_up_ne h.2.2.1, kv_up_ne h.2.1, kv_take_ne h.2.2.2.1]
theorem ko_cor_i {K : ce_V} {O : Nat → Int32} {w m j : Nat} (h : kv_cl K) (hj : kj K O) (hm : j < 6) : (ko_cor K m w O j).toInt = (O j).toInt - (if ¬ 0 < K 4 w ∧ j = m then K 2 w else 0 : Nat) := by
  unfold ko_cor
  have h2 := hj.o h hm
  have h3 := h.pr w
  by_cases e : 0 < K 4 w
  · rw [if_pos e, if_neg (fun z => z.1 e)]; omega
  · rw [if_neg e]
    unfold upd
    by_cases q : j = m
    · subst q
      rw [if_pos rfl, if_pos ⟨e, rfl⟩, kj_sub (by rw [nI_toInt (by omega)]; omega) (by rw [nI_toInt (by omega)]; omega), nI_toInt (by omega)]
    · rw [if_neg q, if_neg (fun z => q z.2)]; omega
theorem kj_cor {K : ce_V} {O : Nat → Int32} {m w : Nat} (hj : kj K O) (h : kv_cl K) (hw : w < 6) (h5 : K 5 w = 2) : kj (kv_cor K m w) (ko_cor K m w O) := by
  have e5 : kv_cor K m w 5 = K 5 := funext fun _ => kv_cor_ne (by decide)
  have e7 : kv_cor K m w 7 = K 7 := funext fun _ => kv_cor_ne (by decide)
  have es : ce_sum (kv_cor K m w 6) 6 = ce_sum (K 6) 6 + 1 := by
    have := ce_sum_up (f := K 6) (f1 := kv_cor K m w 6) (n := 6) (m := w) hw (fun j _ hne => by rw [kv_cor_6, if_neg hne])
    rw [kv_cor_6, if_pos rfl] at this
    omega
  refine ⟨⟨?_, fun v hv h0 => ?_⟩, fun j hm => ?_⟩
  · rw [e5, e7]; exact hj.1.1
  · rw [e5] at h0
    rw [kv_cor_6, if_neg (fun (e : v = w) => h0 (e ▸ h5))]
    exact hj.1.2 v hv h0
  · rw [ko_cor_i h hj hm, es, e5]
    have h2 := hj.2 j hm
    have h3 := h.pr w
    split <;> omega
/-- the club of a text: all wines are open -/
def kj_t (K : ce_V) : Prop := (∀ w, K 5 w = 0) ∧ ∀ w, K 6 w = 0
theorem kj_t.j {K : ce_V} (h : kj_t K) : kj K (fun _ => 0) := by
  refine ⟨⟨fun w _ h0 => absurd (h.1 w) h0, fun w _ _ => h.2 w⟩, fun m _ => ?_⟩
  rw [show (0 : Int32).toInt = 0 from by decide]
  omega
theorem kj_t.same {K K2 : ce_V} (h : kj_t K) (h5 : K2 5 = K 5) (h6 : K2 6 = K 6) : kj_t K2 := by
  unfold kj_t
  rw [h5, h6]
  exact h
theorem kj_tp {T : Nat → Nat} {len p : Nat} {K : ce_V} (h : kj_t K) : kj_t (kx_part T len K p).2.1 := by
  have e1 : ∀ n, kj_t (kv_enr K n) := fun n => h.same (by unfold kv_enr; rw [kv_up_ne (by decide), kv_up_ne (by decide)]) (by unfold kv_enr; rw [kv_up_ne (by decide), kv_up_ne (by decide)])
  have e2 : ∀ x n, kj_t (kv_off K x n) := fun x n => h.same (by unfold kv_off; rw [kv_up_ne (by decide), kv_up_ne (by decide), kv_up_ne (by decide), kv_up_ne (by decide)]) (by unfold kv_off; rw [kv_up_ne (by decide), kv_up_ne (by decide), kv_up_ne (by decide), kv_up_ne (by decide)])
  have e3 : ∀ n, kj_t (kv_inst K n) := fun n => h.same (funext fun j => kv_inst_0 (Or.inl (by decide)) (by decide)) (funext fun j => kv_inst_0 (Or.inl (by decide)) (by decide))
  have e4 : ∀ m w n, kj_t (kv_ord K m w n) := fun m w n => h.same (kv_up_ne (by decide)) (kv_up_ne (by decide))
  unfold kx_part kx_pm kx_pw kx_pb kx_po
  (repeat' split) <;> first | exact h | exact e1 _ | exact e2 _ _ | exact e3 _ | exact e4 _ _ _
theorem kj_tl {T : Nat → Nat} {len : Nat} : ∀ {t p : Nat} {K : ce_V}, kj_t K → kj_t (kx_loop T len t K p).2
  | 0, p, K, h => h
  | t + 1, p, K, h => by
    by_cases hp : p < len
    · by_cases h1 : (kx_part T len K p).1 = true
      · rw [kx_loop_y (by omega) hp h1]
        exact kj_tl (kj_tp h)
      · rw [kx_loop_x (by omega) hp h1]
        exact kj_tp h
    · rw [kx_loop_n hp]; exact h
theorem kj_tr {T : Nat → Nat} {len : Nat} : kj_t (kx_read T len).2 := by
  have h0 : kj_t kv_0 := ⟨fun _ => rfl, fun _ => rfl⟩
  unfold kx_read
  split
  · exact h0
  · exact kj_tl h0
/-- the whole object -/
def ks_kj (S : ks_S) : Prop := kj (sK S) (sO S) ∧ (∀ i, i < sn S → kj (sKH S i) (sOH S i)) ∧ ∀ s, s < 2 → sF S s = true → kj (sKS S s) (sOS S s)
theorem jk_act {S : ks_S} (h : ks_kj S) (hn : sn S ≤ 14) {K : ce_V} {O : Nat → Int32} (hk : kj K O) : ks_kj (ks_act S K O) := by
  obtain ⟨h1, h2, h3⟩ := h
  refine ⟨hk, fun i hi => ?_, h3⟩
  show kj (kh_f (sn S) (sKH S) (sK S) i) (kh_f (sn S) (sOH S) (sO S) i)
  have hi2 : i < kh_n (sn S) := hi
  unfold kh_n at hi2
  unfold kh_f
  by_cases e : sn S = 14
  · rw [if_pos e] at hi2
    rw [if_pos e, if_pos e]
    by_cases e2 : i = 13
    · rw [if_pos e2, if_pos e2]; exact h1
    · rw [if_neg e2, if_neg e2]; exact h2 _ (by omega)
  · rw [if_neg e] at hi2
    rw [if_neg e, if_neg e]
    by_cases e2 : i = sn S
    · rw [if_pos e2, if_pos e2]; exact h1
    · rw [if_neg e2, if_neg e2]; exact h2 _ (by omega)
theorem jk_undo {S : ks_S} (h : ks_kj S) (hn : 0 < sn S) : ks_kj (ks_undo S) := ⟨h.2.1 _ (by omega), fun i hi => h.2.1 i (by have : i < sn S - 1 := hi; omega), h.2.2⟩
theorem jk_save {S : ks_S} (h : ks_kj S) (s : Nat) : ks_kj (ks_save S s) := by
  refine ⟨h.1, h.2.1, fun i hi hF => ?_⟩
  show kj (if i = s then sK S else sKS S i) (if i = s then sO S else sOS S i)
  have hF : (if i = s then true else sF S i) = true := hF
  by_cases e : i = s
  · rw [if_pos e, if_pos e]; exact h.1
  · rw [if_neg e] at hF
    rw [if_neg e, if_neg e]; exact h.2.2 i hi hF
theorem jk_rest {S : ks_S} (h : ks_kj S) {s : Nat} (hs : s < 2) (hF : sF S s = true) : ks_kj (ks_rest S s) := ⟨h.2.2 s hs hF, fun i hi => by have : i < 0 := hi; omega, h.2.2⟩
theorem jk_load {S : ks_S} {K : ce_V} (h : kj K (fun _ => 0)) : ks_kj (ks_load S K) := ⟨h, fun i hi => by have : i < 0 := hi; omega, fun s hs hF => (by cases hF)⟩
theorem jk_text {S : ks_S} {n : Nat} {T : Nat → Nat} (h : ks_kj S) : ks_kj (S.1, S.2.1, S.2.2.1, (n, T)) := h
theorem jk_0 : ks_kj ks_0 := ⟨kj_t.j ⟨fun _ => rfl, fun _ => rfl⟩, fun i hi => by have : i < 0 := hi; omega, fun s hs hF => (by cases hF)⟩
/-- all that is true of an object between two calls -/
def kl_iv (S : ks_S) : Prop := (ks_ok S ∧ ks_oz S) ∧ ks_kj S ∧ sn S ≤ 14
theorem kl_iv.ok {S : ks_S} (h : kl_iv S) : ks_ok S := h.1.1
theorem kl_iv.oz {S : ks_S} (h : kl_iv S) : ks_oz S := h.1.2
theorem kl_iv.kj {S : ks_S} (h : kl_iv S) : ks_kj S := h.2.1
theorem kl_iv.n {S : ks_S} (h : kl_iv S) : sn S ≤ 14 := h.2.2
theorem kh_n_le {n : Nat} (h : n ≤ 14) : kh_n n ≤ 14 := by
  unfold kh_n
  split <;> omega
theorem iv_act {S : ks_S} (h : kl_iv S) {K : ce_V} {O : Nat → Int32} (h1 : kv_cl K) (h2 : ko_z K O) (h3 : kj K O) : kl_iv (ks_act S K O) := ⟨⟨h.ok.act h.n h1, oz_act h.oz h.n h2⟩, jk_act h.kj h.n h3, kh_n_le h.n⟩
theorem iv_undo {S : ks_S} (h : kl_iv S) (hn : 0 < sn S) : kl_iv (ks_undo S) := ⟨⟨h.ok.undo hn, oz_undo h.oz hn⟩, jk_undo h.kj hn, by have := h.n; show sn S - 1 ≤ 14; omega⟩
theorem iv_save {S : ks_S} (h : kl_iv S) (s : Nat) : kl_iv (ks_save S s) := ⟨⟨h.ok.save s, oz_save h.oz s⟩, jk_save h.kj s, h.n⟩
theorem iv_rest {S : ks_S} (h : kl_iv S) {s : Nat} (hs : s < 2) (hF : sF S s = true) : kl_iv (ks_rest S s) := ⟨⟨h.ok.rest hs hF, oz_rest h.oz hs hF⟩, jk_rest h.kj hs hF, Nat.zero_le _⟩
theorem iv_load {S : ks_S} (h : kl_iv S) : kl_iv (ks_load S (kx_read (sT S) (sl S)).2) := ⟨⟨h.ok.load kx_read_cl, oz_load _⟩, jk_load kj_tr.j, Nat.zero_le _⟩
theorem iv_app {S : ks_S} (h : kl_iv S) {c : Nat} (hc : c < 256) : kl_iv (ks_app S c) := ⟨⟨h.ok.app hc, oz_text h.oz⟩, jk_text h.kj, h.n⟩
theorem iv_wipe {S : ks_S} (h : kl_iv S) : kl_iv (ks_wipe S) := ⟨⟨h.ok.wipe, oz_text h.oz⟩, jk_text h.kj, h.n⟩
theorem iv_0 : kl_iv ks_0 := ⟨⟨ks_0_ok, oz_0⟩, jk_0, Nat.zero_le _⟩
/-- an action that is taken back: all but what is remembered is as it was -/
theorem ks_back {S : ks_S} {K : ce_V} {O : Nat → Int32} : 0 < sn (ks_act S K O) ∧ (ks_undo (ks_act S K O)).1 = S.1 ∧ (ks_undo (ks_act S K O)).2.2 = S.2.2 := by
  have h0 : 0 < kh_n (sn S) := by unfold kh_n; split <;> omega
  have hx : ∀ (α : Type) (f : Nat → α) (x : α), kh_f (sn S) f x (kh_n (sn S) - 1) = x := fun α f x => by
    unfold kh_f kh_n
    by_cases e : sn S = 14
    · rw [if_pos e, if_pos e, if_pos (by omega)]
    · rw [if_neg e, if_neg e, if_pos (by omega)]
  exact ⟨h0, Prod.ext (hx _ (sKH S) (sK S)) (hx _ (sOH S) (sO S)), rfl⟩
/-- .. and what was remembered before it is under it -/
theorem ks_back2 {S : ks_S} {K K2 : ce_V} {O O2 : Nat → Int32} : 0 < sn (ks_undo (ks_act (ks_act S K O) K2 O2)) ∧ (ks_undo (ks_undo (ks_act (ks_act S K O) K2 O2))).1 = S.1 ∧ (ks_undo (ks_undo (ks_act (ks_act S K O) K2 O2))).2.2 = S.2.2 := by
  have h0 : 0 < kh_n (kh_n (sn S)) - 1 := by unfold kh_n; (repeat' split) <;> omega
  have hx : ∀ (α : Type) (f : Nat → α) (x y : α), kh_f (kh_n (sn S)) (kh_f (sn S) f x) y (kh_n (kh_n (sn S)) - 1 - 1) = x := fun α f x y => by
    by_cases e : sn S = 14
    · have e1 : kh_n (sn S) = 14 := by unfold kh_n; rw [if_pos e]
      rw [e1]
      have e2 : kh_n 14 = 14 := rfl
      rw [e2]
      unfold kh_f
      rw [if_pos rfl, if_neg (by decide), if_pos e, if_pos (by decide)]
    · have e1 : kh_n (sn S) = sn S + 1 := by unfold kh_n; rw [if_neg e]
      rw [e1]
      by_cases q : sn S + 1 = 14
      · have e2 : sn S = 13 := by omega
        rw [e2]
        have e3 : kh_n (13 + 1) = 14 := rfl
        rw [e3]
        unfold kh_f
        rw [if_pos rfl, if_neg (by decide), if_neg (by decide), if_pos (by decide)]
      · have e3 : kh_n (sn S + 1) = sn S + 2 := by unfold kh_n; rw [if_neg q]
        rw [e3]
        unfold kh_f
        rw [if_neg q, if_neg (by omega), if_neg e, if_pos (by omega)]
  exact ⟨h0, Prod.ext (hx _ (sKH S) (sK S) K) (hx _ (sOH S) (sO S) O), rfl⟩
