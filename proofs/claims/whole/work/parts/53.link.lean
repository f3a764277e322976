/-! what the reference does to its row is what the class does to its club -/
theorem kq_next {K : ce_V} {w : Nat} : ∀ n, kv_next (kq K) w n = kv_next K w n
  | 0 => rfl
  | n + 1 => by
    unfold kv_next
    rw [kq_next n, kq_ne (a := 1) (by decide), kq_ne (a := 7) (by decide), kq_ne (a := 8) (by decide)]
theorem kq_give1 {K : ce_V} {m w : Nat} : kq (kv_give1 K m w) = kv_give1 (kq K) m w := by
  unfold kv_give1
  rw [kq_up (by decide), kq_up (by decide), kq_ne (K := K) (a := 8) (by decide), kq_ne (K := K) (a := 4) (by decide)]
theorem kq_share {w : Nat} : ∀ {t : Nat} {K : ce_V}, kv_share w t (kq K) = kq (kv_share w t K)
  | 0, _ => rfl
  | t + 1, K => by
    unfold kv_share
    rw [kq_ne (a := 4) (by decide), kq_ne (a := 0) (by decide), kq_next]
    by_cases e : K 4 w = 0
    · rw [if_pos e, if_pos e]
    · rw [if_neg e, if_neg e]
      cases kv_next K w (K 0 0) with
      | none => rfl
      | some m => dsimp only; rw [← kq_give1, kq_share]
theorem kq_end {w : Nat} : ∀ {n : Nat} {K : ce_V}, kq (kv_end w n K) = kv_end w n (kq K)
  | 0, _ => rfl
  | n + 1, K => by
    show kq (kv_up (kv_up (kv_end w n K) 1 n (min 999 (K 1 n + K 8 (n * 6 + w)))) 7 (n * 6 + w) 0) = kv_up (kv_up (kv_end w n (kq K)) 1 n (min 999 (kq K 1 n + kq K 8 (n * 6 + w)))) 7 (n * 6 + w) 0
    rw [kq_up (by decide), kq_up (by decide), kq_end, kq_ne (K := K) (a := 1) (by decide), kq_ne (K := K) (a := 8) (by decide)]
theorem kq_del {w : Nat} : ∀ {n : Nat} {K : ce_V}, kq (kv_del w n K) = kv_del w n (kq K)
  | 0, _ => rfl
  | n + 1, K => by
    show kq (kv_up (kv_up (kv_del w n K) 9 (n * 6 + w) (K 8 (n * 6 + w))) 8 (n * 6 + w) 0) = kv_up (kv_up (kv_del w n (kq K)) 9 (n * 6 + w) (kq K 8 (n * 6 + w))) 8 (n * 6 + w) 0
    rw [kq_up (by decide), kq_up (by decide), kq_del, kq_ne (K := K) (a := 8) (by decide)]
theorem kq_endO {K : ce_V} {w n : Nat} {O : Nat → Int32} : ko_end (kq K) w n O = ko_end K w n O := by
  unfold ko_end kv_half
  rw [kq_ne (a := 2) (by decide), kq_ne (a := 8) (by decide)]
/-- an allocation -/
theorem kb_al_eq {F R : ce_V} {w : Nat} (h1 : R 1 = F 1) (h7 : R 7 = F 7) : ∀ (n : Nat), (∀ j, kb_al R w n F 1 j = kv_end w n R 1 j) ∧ (∀ j, kb_al R w n F 7 j = kv_end w n R 7 j) ∧ ∀ j, kb_al R w n F 8 j = R 8 j ∨ ((∀ m, m < n → j ≠ m * 6 + w) ∧ kb_al R w n F 8 j = F 8 j)
  | 0 => ⟨fun j => by show F 1 j = R 1 j; rw [h1], fun j => by show F 7 j = R 7 j; rw [h7], fun j => Or.inr ⟨fun m hm => absurd hm (Nat.not_lt_zero m), rfl⟩⟩
  | n + 1 => by
    obtain ⟨a1, a7, a8⟩ := kb_al_eq (F := F) (R := R) (w := w) h1 h7 n
    refine ⟨fun j => ?_, fun j => ?_, fun j => ?_⟩
    · show kv_up (kv_up (kv_up (kb_al R w n F) 7 _ 0) 8 _ _) 1 n (min 999 (F 1 n + R 8 (n * 6 + w))) 1 j = kv_up (kv_up (kv_end w n R) 1 n (min 999 (R 1 n + R 8 (n * 6 + w)))) 7 _ 0 1 j
      rw [kv_up_a, kv_up_ne (by decide), kv_up_ne (by decide), kv_up_ne (a := 7) (b := 1) (by decide), kv_up_a, a1 j, h1]
    · show kv_up (kv_up (kv_up (kb_al R w n F) 7 (n * 6 + w) 0) 8 _ _) 1 n (min 999 (F 1 n + R 8 (n * 6 + w))) 7 j = kv_up (kv_up (kv_end w n R) 1 n (min 999 (R 1 n + R 8 (n * 6 + w)))) 7 (n * 6 + w) 0 7 j
      rw [kv_up_ne (by decide), kv_up_ne (by decide), kv_up_a, kv_up_a, kv_up_ne (a := 1) (b := 7) (by decide), a7 j]
    · show kv_up (kv_up (kv_up (kb_al R w n F) 7 (n * 6 + w) 0) 8 (n * 6 + w) (R 8 (n * 6 + w))) 1 n _ 8 j = R 8 j ∨ _
      have e : kb_al R w (n + 1) F 8 j = if j = n * 6 + w then R 8 (n * 6 + w) else kb_al R w n F 8 j := by
        show kv_up (kv_up (kv_up (kb_al R w n F) 7 (n * 6 + w) 0) 8 (n * 6 + w) (R 8 (n * 6 + w))) 1 n _ 8 j = _
        rw [kv_up_ne (by decide), kv_up_a, kv_up_ne (by decide)]
      have e2 : kv_up (kv_up (kv_up (kb_al R w n F) 7 (n * 6 + w) 0) 8 (n * 6 + w) (R 8 (n * 6 + w))) 1 n (min 999 (F 1 n + R 8 (n * 6 + w))) 8 j = kb_al R w (n + 1) F 8 j := rfl
      rw [e2, e]
      by_cases q : j = n * 6 + w
      · rw [if_pos q, q]
        exact Or.inl rfl
      · rw [if_neg q]
        rcases a8 j with h | h
        · exact Or.inl h
        · refine Or.inr ⟨fun m hm => ?_, h.2⟩
          by_cases q2 : m = n
          · rw [q2]; exact q
          · exact h.1 m (by omega)
theorem kq_all {K : ce_V} {w : Nat} {f : Nat → Int32} {O : Nat → Int32} (hw : w < 6) (h6 : K 0 0 ≤ 6) (h : cr_row f (kb_all (kv_share w 60 (kq K)) w (kq K)) (ko_end (kv_share w 60 (kq K)) w (kq K 0 0) O)) : cr_row f (kq (kv_all K w)) (ko_all K w O) := by
  have eq0 : kq K 0 = K 0 := kq_ne (by decide)
  have hp := kv_share_p (w := w) hw (t := 60) (K := kq K) (by rw [eq0]; exact h6)
  have e : kq (kv_all K w) = kv_up (kv_end w (K 0 0) (kv_share w 60 (kq K))) 5 w 1 := by
    unfold kv_all
    rw [kq_up (by decide), kq_end, kq_share]
  have hall : ∀ a j, a ≠ 10 → kv_up (kv_end w (K 0 0) (kv_share w 60 (kq K))) 5 w 1 a j = kb_all (kv_share w 60 (kq K)) w (kq K) a j := by
    intro a j _
    unfold kb_all
    rw [eq0]
    generalize hR : kv_share w 60 (kq K) = R at hp
    have hne : ∀ b, b ≠ 4 → b ≠ 8 → R b = kq K b := fun b h1 h2 => funext fun i => by rw [← hR]; exact kv_share_ne ⟨h1, h2⟩
    obtain ⟨a1, a7, a8⟩ := kb_al_eq (F := kq K) (R := R) (w := w) (hne 1 (by decide) (by decide)) (hne 7 (by decide) (by decide)) (K 0 0)
    by_cases q5 : a = 5
    · subst q5
      rw [kv_up_a, kv_up_a, kv_end_ne (by decide), hne 5 (by decide) (by decide), kv_up_ne (a := 4) (b := 5) (by decide), kb_al_ne (by decide)]
    · rw [kv_up_ne q5, kv_up_ne q5]
      by_cases q4 : a = 4
      · subst q4
        rw [kv_up_a, kv_end_ne (by decide), kb_al_ne (by decide)]
        by_cases e4 : j = w
        · rw [if_pos e4, e4]
        · rw [if_neg e4]; exact hp.1 j e4
      · rw [kv_up_ne q4]
        by_cases q1 : a = 1
        · subst q1; exact (a1 j).symm
        · by_cases q7 : a = 7
          · subst q7; exact (a7 j).symm
          · by_cases q8 : a = 8
            · subst q8
              rw [kv_end_ne (by decide)]
              rcases a8 j with h | h
              · exact h.symm
              · rw [h.2]
                by_cases e6 : j % 6 = w
                · by_cases e0 : j / 6 < K 0 0
                  · exact absurd (show j = j / 6 * 6 + w by omega) (h.1 (j / 6) e0)
                  · have := hp.2.2.1 (j / 6) (by rw [eq0]; omega)
                    rw [show j / 6 * 6 + w = j by omega] at this
                    exact this
                · have := hp.2.1 (j / 6) (j % 6) (Nat.mod_lt _ (by decide)) e6
                  rw [show j / 6 * 6 + j % 6 = j by omega] at this
                  exact this
            · rw [kv_end_ne ⟨q1, q7⟩, kb_al_ne ⟨q1, q7, q8⟩, hne a q4 q8]
  rw [e]
  refine h.cg (fun a j h10 _ => hall a j h10) (fun j _ => hall 15 j (by decide)) (fun j => ?_)
  unfold ko_all
  rw [kq_share, kq_endO, eq0]
/-- a delivery -/
theorem kb_de_eq {F : ce_V} {w : Nat} (hw : w < 6) : ∀ (n : Nat), (∀ m, m < n → F 9 (m * 6 + w) = 0) → ∀ a j, kb_de w n F a j = kv_del w n F a j
  | 0, _, _, _ => rfl
  | n + 1, h9, a, j => by
    have ih := kb_de_eq (F := F) hw n (fun m hm => h9 m (by omega))
    show kv_up (kv_up (kb_de w n F) 8 (n * 6 + w) 0) 9 (n * 6 + w) (F 9 (n * 6 + w) + F 8 (n * 6 + w)) a j = kv_up (kv_up (kv_del w n F) 9 (n * 6 + w) (F 8 (n * 6 + w))) 8 (n * 6 + w) 0 a j
    rw [h9 n (by omega), Nat.zero_add]
    by_cases q9 : a = 9
    · subst q9
      rw [kv_up_a, kv_up_ne (a := 8) (b := 9) (by decide), kv_up_ne (a := 8) (b := 9) (by decide), kv_up_a, ih 9 j]
    · rw [kv_up_ne q9]
      by_cases q8 : a = 8
      · subst q8
        rw [kv_up_a, kv_up_a, kv_up_ne (by decide), ih 8 j]
      · rw [kv_up_ne q8, kv_up_ne q8, kv_up_ne q9, ih a j]
theorem kq_sum8 {K : ce_V} (h : kv_cl K) {a w : Nat} (ha : a = 7 ∨ a = 8 ∨ a = 9 ∨ a = 10) (hw : w < 6) : ce_sum (fun m => K a (m * 6 + w)) (K 0 0) = kv_sum K a w := by
  refine (ce_sum_end h.me (fun m h1 _ => ?_)).symm
  have := h.zm m w hw h1
  rcases ha with rfl | rfl | rfl | rfl
  · exact this.2.1
  · exact this.2.2.1
  · exact this.2.2.2.1
  · exact this.2.2.2.2
theorem kq_bri {K : ce_V} (h : kv_cl K) {w : Nat} {f : Nat → Int32} {O : Nat → Int32} (hw : w < 6) (h5 : K 5 w = 1) (hr : cr_row f (kb_del w (kq K)) (kb_deO (kq K) w (kq K 0 0) O)) : cr_row f (kq (kv_bri K w)) (ko_bri K w O) := by
  have eq0 : kq K 0 = K 0 := kq_ne (by decide)
  have e8 : kq K 8 = K 8 := kq_ne (by decide)
  have eS : ce_sum (fun m => kq K 8 (m * 6 + w)) (kq K 0 0) = kv_sum K 8 w := by rw [e8, eq0]; exact kq_sum8 h (by omega) hw
  have eL : kv_lay w 8 (kv_sum K 8 w) (kq K) = kq (kv_lay w (K 0 2) (kv_sum K 8 w) K) := by
    rw [kv_lay_t (s := K 0 2) (kq_rk h.rk) hw (kq_nr8 (kq_rk h.rk) w).1 (by have := kv_nr_le (kq K) w; rw [eq0] at this; exact this), ← kq_lay]
  have e : kq (kv_bri K w) = kv_up (kv_del w (K 0 0) (kv_lay w 8 (kv_sum K 8 w) (kq K))) 5 w 2 := by
    unfold kv_bri
    rw [kq_up (by decide), kq_del, eL]
  have hall : ∀ a j, kq (kv_bri K w) a j = kb_del w (kq K) a j := by
    intro a j
    rw [e]
    unfold kb_del
    rw [eS, eq0]
    have h9 : ∀ m, m < K 0 0 → kv_lay w 8 (kv_sum K 8 w) (kq K) 9 (m * 6 + w) = 0 := fun m hm => by
      have := h.me
      rw [kv_lay_ne (by decide) (by decide), kq_ne (a := 9) (by decide)]
      exact (h.z9 w hw (by omega) m (by omega)).1
    by_cases q : a = 5
    · subst q
      rw [kv_up_a, kv_up_a, kb_de_eq hw _ h9]
    · rw [kv_up_ne q, kv_up_ne q, kb_de_eq hw _ h9]
  refine hr.cg (fun a j _ _ => hall a j) (fun j _ => hall 15 j) (fun j => ?_)
  unfold ko_bri ko_del kb_deO kv_half
  rw [eq0, e8, kq_ne (a := 2) (by decide)]
/-- bottles drunk -/
theorem kq_dri {K : ce_V} (h : kv_cl K) {m w n : Nat} {f : Nat → Int32} {O : Nat → Int32} (hm : m < 6) (hw : w < 6) (hr : cr_row f (kv_up (kv_up (kv_up (kv_take w 8 n (kq K)) 9 (m * 6 + w) (kq K 9 (m * 6 + w) - n)) 15 w (kq K 15 w + n)) 14 m (kq K 14 m + n)) O) : cr_row f (kq (kv_dri K m w n)) O := by
  have eT : kv_take w 8 n (kq K) = kq (kv_take w (K 0 2) n K) := by
    rw [kv_take_t (s := K 0 2) (kq_rk h.rk) (kq_nt8 (kq_rk h.rk) w).1 (by have := kv_nt_le (kq K) w; rw [kq_ne (a := 0) (by decide)] at this; exact this), ← kq_take]
  have e10 : kv_dri K m w n 10 = fun j => if j = m * 6 + w then K 10 (m * 6 + w) + n else K 10 j := by
    funext j
    unfold kv_dri
    rw [kv_up_a, kv_up_ne (by decide), kv_take_ne (by decide)]
  have e14 : ∀ j, kq (kv_dri K m w n) 14 j = if j = m then kq K 14 m + n else kq K 14 j := by
    intro j
    rw [kq_14, kq_14, kq_14, e10]
    by_cases q : j = m
    · subst q
      rw [if_pos rfl]
      have := ce_sum_up (f := fun v => K 10 (j * 6 + v)) (f1 := fun v => if j * 6 + v = j * 6 + w then K 10 (j * 6 + w) + n else K 10 (j * 6 + v)) hw (fun v _ hv => if_neg (by omega))
      rw [if_pos rfl] at this
      show ce_sum (fun v => if j * 6 + v = j * 6 + w then K 10 (j * 6 + w) + n else K 10 (j * 6 + v)) 6 = _
      omega
    · rw [if_neg q]
      exact ce_sum_cong (fun v hv => if_neg (by omega))
  have e15 : ∀ j, j < 6 → kq (kv_dri K m w n) 15 j = if j = w then kq K 15 w + n else kq K 15 j := by
    intro j hj
    rw [kq_15, kq_15, kq_15]
    unfold kv_sum
    rw [e10]
    by_cases q : j = w
    · subst q
      rw [if_pos rfl]
      have := ce_sum_up (f := fun v => K 10 (v * 6 + j)) (f1 := fun v => if v * 6 + j = m * 6 + j then K 10 (m * 6 + j) + n else K 10 (v * 6 + j)) hm (fun v _ hv => if_neg (by omega))
      rw [if_pos rfl] at this
      show ce_sum (fun v => if v * 6 + j = m * 6 + j then K 10 (m * 6 + j) + n else K 10 (v * 6 + j)) 6 = _
      omega
    · rw [if_neg q]
      exact ce_sum_cong (fun v hv => if_neg (by omega))
  refine hr.cg (fun a j h10 h15 => ?_) (fun j hj => ?_) (fun _ => rfl)
  · by_cases q : a = 14
    · subst q
      rw [kv_up_a, kv_up_ne (a := 15) (b := 14) (by decide), kv_up_ne (a := 9) (b := 14) (by decide), kv_take_ne (by decide)]
      exact e14 j
    · rw [kv_up_ne q, kv_up_ne h15, kq_ne ⟨q, h15⟩, eT, kq_ne (K := K) (a := 9) (by decide)]
      unfold kv_dri
      rw [kv_up_ne h10]
      by_cases q9 : a = 9
      · subst q9
        rw [kv_up_a, kv_up_a, kq_ne (a := 9) (by decide)]
      · rw [kv_up_ne q9, kv_up_ne q9, kq_ne ⟨q, h15⟩]
  · rw [kv_up_ne (a := 14) (b := 15) (by decide), kv_up_a, kv_up_ne (a := 9) (b := 15) (by decide), kv_take_ne (by decide)]
    exact e15 j hj
/-- the rest -/
theorem kq_han {K : ce_V} {m o w n : Nat} : kv_up (kv_up (kq K) 9 (m * 6 + w) (kq K 9 (m * 6 + w) - n)) 9 (o * 6 + w) (kq K 9 (o * 6 + w) + n) = kq (kv_han K m o w n) := by
  unfold kv_han
  rw [kq_up (by decide), kq_up (by decide), kq_ne (K := K) (a := 9) (by decide)]
theorem kq_car {K : ce_V} {x y n : Nat} (hxy : x ≠ y) (h : 1 ≤ K 13 x) : kv_up (kv_up (kv_up (kq K) 13 y (kq K 13 x)) 12 x (kq K 12 x - n)) 12 y (kq K 12 y + n) = kq (kv_car K x y n) := by
  have e : kq (kv_car K x y n) = kv_up (kv_up (kv_up (kq K) 13 y (K 13 x)) 12 y (K 12 y + n)) 12 x (K 12 x - n) := by
    unfold kv_car kv_rem kv_put
    rw [kq_up (by decide), kq_up (by decide), kq_up (by decide), kv_up_j (K := kv_up K 13 y (K 13 x - 1 + 1)) (a := 12) (b := 12) (i := y) (j := x) hxy, kv_up_ne (by decide), show K 13 x - 1 + 1 = K 13 x by omega]
  rw [e, kq_ne (K := K) (a := 13) (by decide), kq_ne (K := K) (a := 12) (by decide)]
  funext a j
  by_cases q : a = 12
  · subst q
    rw [kv_up_a, kv_up_a, kv_up_a, kv_up_a]
    by_cases q1 : j = y
    · subst q1
      rw [if_pos rfl, if_neg (Ne.symm hxy), if_pos rfl]
    · rw [if_neg q1, if_neg q1]
  · rw [kv_up_ne q, kv_up_ne q, kv_up_ne q, kv_up_ne q]
theorem kq_enr {K : ce_V} {p : Nat} : kv_up (kv_up (kq K) 1 (kq K 0 0) p) 0 0 (kq K 0 0 + 1) = kq (kv_enr K p) := by
  unfold kv_enr
  rw [kq_up (by decide), kq_up (by decide), kq_ne (K := K) (a := 0) (by decide)]
theorem kq_off {K : ce_V} {p n : Nat} : kv_up (kv_up (kv_up (kv_up (kq K) 2 (kq K 0 1) p) 3 (kq K 0 1) n) 4 (kq K 0 1) n) 0 1 (kq K 0 1 + 1) = kq (kv_off K p n) := by
  unfold kv_off
  rw [kq_up (by decide), kq_up (by decide), kq_up (by decide), kq_up (by decide), kq_ne (K := K) (a := 0) (by decide)]
theorem kq_inst {K : ce_V} {n : Nat} : kv_up (kv_up (kq K) 11 (kq K 0 2) n) 0 2 (kq K 0 2 + 1) = kq (kv_inst K n) := by
  unfold kv_inst
  rw [kq_up (by decide), kq_up (by decide), kq_ne (K := K) (a := 0) (by decide)]
theorem kq_ord {K : ce_V} {m w n : Nat} : kv_up (kq K) 7 (m * 6 + w) n = kq (kv_ord K m w n) := (kq_up (by decide)).symm
/-- a corked bottle -/
theorem kq_crk {K : ce_V} (h : kv_cl K) {w : Nat} : kv_up (kv_take w 8 1 (kq K)) 6 w (kq K 6 w + 1) = kq (kv_crk K w) := by
  unfold kv_crk
  rw [kq_up (by decide), kq_take, kq_ne (K := K) (a := 6) (by decide), kv_take_t (s := K 0 2) (kq_rk h.rk) (kq_nt8 (kq_rk h.rk) w).1 (by have := kv_nt_le (kq K) w; rw [kq_ne (a := 0) (by decide)] at this; exact this)]
theorem kq_cor1 {K : ce_V} (h : kv_cl K) {m w : Nat} (hw : w < 6) (hm : m < 6) (h9 : 0 < K 9 (m * 6 + w)) : kv_rk (kv_up (kv_crk K w) 4 w (K 4 w - 1)) ∧ 1 ≤ ce_sum (kv_room (kv_up (kv_crk K w) 4 w (K 4 w - 1)) w) ((kv_up (kv_crk K w) 4 w (K 4 w - 1)) 0 2) ∧ (kv_up (kv_crk K w) 4 w (K 4 w - 1)) 0 2 = K 0 2 := by
  have hb := h.bi w hw
  have hle : K 9 (m * 6 + w) ≤ kv_sum K 9 w := kv_s_le (f := fun m => K 9 (m * 6 + w)) (j := m) (n := 6) hm
  have f0 : (kv_up (kv_crk K w) 4 w (K 4 w - 1)) 0 2 = K 0 2 := by unfold kv_crk; rw [kv_up_ne (by decide), kv_up_ne (by decide), kv_take_ne (by decide)]
  have f11 : (kv_up (kv_crk K w) 4 w (K 4 w - 1)) 11 = K 11 := by unfold kv_crk; rw [kv_up_ne (by decide), kv_up_ne (by decide)]; exact funext fun j => kv_take_ne (by decide)
  have f12 : (kv_up (kv_crk K w) 4 w (K 4 w - 1)) 12 = kv_take w (K 0 2) 1 K 12 := by unfold kv_crk; rw [kv_up_ne (by decide), kv_up_ne (by decide)]
  have f13 : (kv_up (kv_crk K w) 4 w (K 4 w - 1)) 13 = K 13 := by unfold kv_crk; rw [kv_up_ne (by decide), kv_up_ne (by decide)]; exact funext fun j => kv_take_ne (by decide)
  have t11 : kv_take w (K 0 2) 1 K 11 = K 11 := funext fun j => kv_take_ne (by decide)
  have t13 : kv_take w (K 0 2) 1 K 13 = K 13 := funext fun j => kv_take_ne (by decide)
  refine ⟨kv_rk_eq (kv_rk_take (w := w) (t := K 0 2) (left := 1) h.rk) (by rw [f0, kv_take_ne (by decide)]) (by rw [f11, t11]) f12 (by rw [f13, t13]), ?_, f0⟩
  rw [f0, kv_room_c (K := kv_take w (K 0 2) 1 K) (by rw [f11, t11]) f12 (by rw [f13, t13])]
  exact kv_room_take h.rk (by omega)
theorem kq_cor {K : ce_V} (h : kv_cl K) {m w : Nat} (hw : w < 6) (hm : m < 6) (h9 : 0 < K 9 (m * 6 + w)) : kb_cor (kq K) m w = kq (kv_cor K m w) := by
  obtain ⟨k1, k2, k3⟩ := kq_cor1 h hw hm h9
  unfold kb_cor kv_cor
  rw [kq_crk h, kq_ne (K := K) (a := 4) (by decide), kq_ne (K := K) (a := 9) (by decide)]
  by_cases q : 0 < K 4 w
  · rw [if_pos q, if_pos q]
    unfold kv_cor1
    rw [kq_lay, kq_up (by decide), kv_lay_t (s := K 0 2) ?_ hw ?_ ?_]
    · rw [← kq_up (by decide)]; exact kq_rk k1
    · rw [← kq_up (by decide)]; exact (kq_nr8 (kq_rk k1) w).1
    · rw [← kq_up (by decide)]
      have := kv_nr_le (kq (kv_up (kv_crk K w) 4 w (K 4 w - 1))) w
      rw [kq_ne (a := 0) (by decide), k3] at this
      exact this
  · rw [if_neg q, if_neg q, kq_up (by decide)]
theorem kq_corO {K : ce_V} {m w : Nat} {O : Nat → Int32} : kb_corO (kq K) m w O = ko_cor K m w O := by
  unfold kb_corO ko_cor
  rw [kq_ne (a := 4) (by decide), kq_ne (a := 2) (by decide)]
