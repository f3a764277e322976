/-! the reference reads the text: where it stands (p), whether all is good (q: 1), the row read so far -/
def kr_st (g0 g : ce_D) (d len p q : Nat) (F : ce_V) : Prop := g d 2 = nI len ∧ g d 3 = nI p ∧ g d 4 = nI q ∧ cr_row (g (d + 2)) F (fun _ => 0) ∧ (g d 0 = g0 d 0 ∧ g d 9 = g0 d 9) ∧ ∀ x, x ≠ d → x ≠ d + 2 → g x = g0 x
theorem kr_st.p {g0 g g1 : ce_D} {d len p q : Nat} {F : ce_V} (h : kr_st g0 g d len p q F) (v : Nat) (e : ce_up g d 3 (nI v) = g1) : kr_st g0 g1 d len v q F := by
  subst e
  obtain ⟨h1, h2, h3, h4, ⟨h5, h6⟩, h7⟩ := h
  refine ⟨by rw [ce_up_j (by decide)]; exact h1, ce_up_at _ _ _ _, by rw [ce_up_j (by decide)]; exact h3, by rw [ce_up_ne _ _ _ (by omega)]; exact h4, ⟨by rw [ce_up_j (by decide)]; exact h5, by rw [ce_up_j (by decide)]; exact h6⟩, fun x a b => ?_⟩
  rw [ce_up_ne _ _ _ a]; exact h7 x a b
theorem kr_st.q {g0 g g1 : ce_D} {d len p q : Nat} {F : ce_V} (h : kr_st g0 g d len p q F) (v : Nat) (e : ce_up g d 4 (nI v) = g1) : kr_st g0 g1 d len p v F := by
  subst e
  obtain ⟨h1, h2, h3, h4, ⟨h5, h6⟩, h7⟩ := h
  refine ⟨by rw [ce_up_j (by decide)]; exact h1, by rw [ce_up_j (by decide)]; exact h2, ce_up_at _ _ _ _, by rw [ce_up_ne _ _ _ (by omega)]; exact h4, ⟨by rw [ce_up_j (by decide)]; exact h5, by rw [ce_up_j (by decide)]; exact h6⟩, fun x a b => ?_⟩
  rw [ce_up_ne _ _ _ a]; exact h7 x a b
theorem kr_st.r {g0 g g1 : ce_D} {d len p q : Nat} {F F1 : ce_V} (h : kr_st g0 g d len p q F) (hr : cr_row (g1 (d + 2)) F1 (fun _ => 0)) (f : ∀ x, x ≠ d + 2 → g1 x = g x) : kr_st g0 g1 d len p q F1 := by
  obtain ⟨h1, h2, h3, h4, ⟨h5, h6⟩, h7⟩ := h
  rw [← f d (by omega)] at h1 h2 h3 h5 h6
  exact ⟨h1, h2, h3, hr, ⟨h5, h6⟩, fun x a b => (f x b).trans (h7 x a b)⟩
theorem kr_st.ch {g0 g : ce_D} {d len p q : Nat} {F : ce_V} {T : Nat → Nat} (h : kr_st g0 g d len p q F) (hc : ∀ i, i < len → g0 (d + 1) i = nI (T i)) : ∀ i, i < len → g (d + 1) i = nI (T i) := fun i hi => by rw [h.2.2.2.2.2 _ (by omega) (by omega)]; exact hc i hi
/-- a digit from lo to hi stands at p -/
def kr_ok (T : Nat → Nat) (len lo hi p : Nat) : Prop := p < len ∧ 48 ≤ T p ∧ T p ≤ 57 ∧ lo ≤ T p - 48 ∧ T p - 48 ≤ hi
theorem kx1_y {T : Nat → Nat} {len lo hi p : Nat} (h : kr_ok T len lo hi p) : kx_num T len lo hi [1] 0 p = (some (T p - 48), p + 1) := by
  have h9 := h.2.2
  rw [kx_num_y ⟨h.1, h.2.1, h.2.2.1⟩ (by omega)]
  show (some _, _) = _
  rw [show 0 + (T p - 48) * 1 = T p - 48 by omega]
theorem kx1_n {T : Nat → Nat} {len lo hi p : Nat} (h : ¬ kr_ok T len lo hi p) : kx_num T len lo hi [1] 0 p = (none, p) := by
  by_cases e : p < len ∧ 48 ≤ T p ∧ T p ≤ 57
  · refine kx_num_x e ?_
    by_cases e1 : lo ≤ T p - 48
    · by_cases e2 : T p - 48 ≤ hi
      · exact absurd ⟨e.1, e.2.1, e.2.2, e1, e2⟩ h
      · omega
    · omega
  · exact kx_num_n e
theorem kx2_n {T : Nat → Nat} {len lo hi p : Nat} (h : ¬ kr_ok T len (lo / 10) (hi / 10) p) : kx_num T len lo hi [10, 1] 0 p = (none, p) := by
  by_cases e : p < len ∧ 48 ≤ T p ∧ T p ≤ 57
  · refine kx_num_x e ?_
    by_cases e1 : lo / 10 ≤ T p - 48
    · by_cases e2 : T p - 48 ≤ hi / 10
      · exact absurd ⟨e.1, e.2.1, e.2.2, e1, e2⟩ h
      · omega
    · omega
  · exact kx_num_n e
theorem kx2_y {T : Nat → Nat} {len lo hi p : Nat} (h : kr_ok T len (lo / 10) (hi / 10) p) : kx_num T len lo hi [10, 1] 0 p = kx_num T len lo hi [1] ((T p - 48) * 10) (p + 1) := by
  have h9 := h.2.2
  rw [kx_num_y ⟨h.1, h.2.1, h.2.2.1⟩ (by omega), Nat.zero_add]
theorem kx2_yn {T : Nat → Nat} {len lo hi p lo2 hi2 t : Nat} (h : ¬ kr_ok T len lo2 hi2 p) (h1 : lo2 + t * 10 = lo ∨ (lo2 = 0 ∧ lo ≤ t * 10)) (h2 : hi2 + t * 10 = hi ∨ (hi2 = 9 ∧ 9 + t * 10 ≤ hi)) : kx_num T len lo hi [1] (t * 10) p = (none, p) := by
  by_cases e : p < len ∧ 48 ≤ T p ∧ T p ≤ 57
  · refine kx_num_x e ?_
    by_cases e1 : lo2 ≤ T p - 48
    · by_cases e2 : T p - 48 ≤ hi2
      · exact absurd ⟨e.1, e.2.1, e.2.2, e1, e2⟩ h
      · omega
    · omega
  · exact kx_num_n e
theorem kx2_yy {T : Nat → Nat} {len lo hi p lo2 hi2 t : Nat} (h : kr_ok T len lo2 hi2 p) (h1 : lo2 + t * 10 = lo ∨ (lo2 = 0 ∧ lo ≤ t * 10)) (h2 : hi2 + t * 10 = hi ∨ (hi2 = 9 ∧ 9 + t * 10 ≤ hi)) : kx_num T len lo hi [1] (t * 10) p = (some (10 * t + (T p - 48)), p + 1) := by
  have h9 := h.2.2
  rw [kx_num_y ⟨h.1, h.2.1, h.2.2.1⟩ (by omega)]
  show (some _, _) = _
  rw [show t * 10 + (T p - 48) * 1 = 10 * t + (T p - 48) by omega]
theorem kx3_n {T : Nat → Nat} {len p : Nat} (h : ¬ kr_ok T len 0 9 p) : kx_num T len 0 999 [100, 10, 1] 0 p = (none, p) := by
  by_cases e : p < len ∧ 48 ≤ T p ∧ T p ≤ 57
  · exact absurd ⟨e.1, e.2.1, e.2.2, by omega, by omega⟩ h
  · exact kx_num_n e
theorem kx3_y {T : Nat → Nat} {len p : Nat} (h : kr_ok T len 0 9 p) : kx_num T len 0 999 [100, 10, 1] 0 p = ((kx_num T len 0 99 [10, 1] 0 (p + 1)).1.map (fun n => 100 * (T p - 48) + n), (kx_num T len 0 99 [10, 1] 0 (p + 1)).2) := by
  have hp := h.2.2.1
  rw [kx_num_y ⟨h.1, h.2.1, h.2.2.1⟩ (by omega)]
  generalize hq : p + 1 = q
  by_cases e : q < len ∧ 48 ≤ T q ∧ T q ≤ 57
  · rw [kx_num_y e (by omega), kx_num_y e (by omega)]
    by_cases e2 : q + 1 < len ∧ 48 ≤ T (q + 1) ∧ T (q + 1) ≤ 57
    · rw [kx_num_y e2 (by omega), kx_num_y e2 (by omega)]
      refine Prod.ext ?_ rfl
      show some (0 + (T p - 48) * 100 + (T q - 48) * 10 + (T (q + 1) - 48) * 1) = some (100 * (T p - 48) + (0 + (T q - 48) * 10 + (T (q + 1) - 48) * 1))
      exact congrArg some (by omega)
    · rw [kx_num_n e2, kx_num_n e2]
      rfl
  · rw [kx_num_n e, kx_num_n e]
    rfl
set_option maxHeartbeats 2000000 in
set_option maxRecDepth 20000 in
theorem m_X8_isNext {σ : ce_S} {g0 g : ce_D} (d len p : Nat) (F : ce_V) (T : Nat → Nat) (hD : ce_LM σ d) (h120 : len ≤ 120) (hp9 : p ≤ 1000) (hch : ∀ i, i < len → g0 (d + 1) i = nI (T i)) (hT : ∀ i, i < len → T i < 256) (q : Nat) (h : kr_st g0 g d len p q F) (c : Nat) (hc : c < 1000) : ce_CT (ce_r 0) mX8_isNext [.ref (d), .int (nI (c))] σ g (ce_pv (if p < len ∧ T p = c then 1 else 0) σ g) ce_no := by
  refine ce_enter (by decide) rfl (Nat.le_of_ble_eq_true rfl) (L := [some (.ref (d)), some (.int (nI (c)))]) rfl ?_
  refine ce_aload_n dX8_isNext_0 rfl ?_
  refine ce_getIv dX8_isNext_1 fRX8_119 hD.1 (h).2.1 ?_
  refine ce_aload_n dX8_isNext_4 rfl ?_
  refine ce_getIv dX8_isNext_5 fRX8_112 hD.1 (h).1 ?_
  refine ce_icmp_geN (tgt := 28) dX8_isNext_8 (by decide) rfl rfl (by omega) (by omega) (fun c_8 => ?_) (fun c_8 => ?_)
  · refine ce_iconst (v := nI (0)) dX8_isNext_28 (by decide) ?_
    refine ce_iret dX8_isNext_29 rfl (by first | rfl | decide | assumption) (by decide) (by decide) ?_
    exact ⟨congrArg (fun z => some (Value.int z)) ((if_neg (by omega)).symm), rfl, rfl⟩
  · have hTp := hT p (by omega)
    refine ce_aload_n dX8_isNext_11 rfl ?_
    refine ce_getR dX8_isNext_12 fRX8_7 hD.1 hD.2.1.1 ?_
    refine ce_aload_n dX8_isNext_15 rfl ?_
    refine ce_getIv dX8_isNext_16 fRX8_119 hD.1 (h).2.1 ?_
    refine ce_ialdv dX8_isNext_19 (hD.2.2.1).1 rfl (hD.2.2.1).2 (by omega) (by decide) (h.ch hch _ (by omega)) ?_
    refine ce_iload_n dX8_isNext_20 rfl ?_
    refine ce_icmp_neN (tgt := 28) dX8_isNext_21 (by decide) rfl rfl (by omega) (by omega) (fun c_21 => ?_) (fun c_21 => ?_)
    · refine ce_iconst (v := nI (0)) dX8_isNext_28 (by decide) ?_
      refine ce_iret dX8_isNext_29 rfl (by first | rfl | decide | assumption) (by decide) (by decide) ?_
      exact ⟨congrArg (fun z => some (Value.int z)) ((if_neg (by omega)).symm), rfl, rfl⟩
    · refine ce_iconst (v := nI (1)) dX8_isNext_24 (by decide) ?_
      refine ce_goto (tgt := 29) dX8_isNext_25 (by decide) ?_
      refine ce_iret dX8_isNext_29 rfl (by first | rfl | decide | assumption) (by decide) (by decide) ?_
      exact ⟨congrArg (fun z => some (Value.int z)) ((if_pos (by omega)).symm), rfl, rfl⟩
set_option maxHeartbeats 2000000 in
set_option maxRecDepth 20000 in
theorem m_X8_accept00 {σ : ce_S} {g0 g : ce_D} (d len p : Nat) (F : ce_V) (T : Nat → Nat) (hD : ce_LM σ d) (h120 : len ≤ 120) (hp9 : p ≤ 1000) (hch : ∀ i, i < len → g0 (d + 1) i = nI (T i)) (hT : ∀ i, i < len → T i < 256) (h : kr_st g0 g d len p 0 F) : ce_CT (ce_r 0) mX8_accept [.ref (d), .int (nI (0))] σ g (ce_uv σ (fun g1 => kr_st g0 g1 d len (p + 0) 0 F)) ce_no := by
  refine ce_enter (by decide) rfl (Nat.le_of_ble_eq_true rfl) (L := [some (.ref (d)), some (.int (nI (0)))]) rfl ?_
  refine ce_aload_n dX8_accept_0 rfl ?_
  refine ce_aload_n dX8_accept_1 rfl ?_
  refine ce_getIv dX8_accept_2 fRX8_122 hD.1 (h).2.2.1 ?_
  refine ce_if_eqN (tgt := 16) dX8_accept_5 (by decide) rfl (by omega) (fun c_5 => ?_) (fun c_5 => ?_)
  · refine ce_iconst (v := nI (0)) dX8_accept_16 (by decide) ?_
    refine ce_putI dX8_accept_17 pRX8_122 hD.1 rfl rfl ?_
    generalize hcg1 : ce_up g (d) 4 (nI (0)) = cg1
    have kcg1 := h.q (0) hcg1
    refine ce_aload_n dX8_accept_20 rfl ?_
    refine ce_dup dX8_accept_21 rfl ?_
    refine ce_getIv dX8_accept_22 fRX8_119 hD.1 (kcg1).2.1 ?_
    refine ce_aload_n dX8_accept_25 rfl ?_
    refine ce_getIv dX8_accept_26 fRX8_122 hD.1 (kcg1).2.2.1 ?_
    refine ce_if_eqN (tgt := 36) dX8_accept_29 (by decide) rfl (by omega) (fun c_29 => ?_) (fun c_29 => ?_)
    · refine ce_iconst (v := nI (0)) dX8_accept_36 (by decide) ?_
      refine ce_iadd (z := nI (p + 0)) dX8_accept_37 (nI_add _ _) ?_
      refine ce_putI dX8_accept_38 pRX8_119 hD.1 rfl rfl ?_
      generalize hcg2 : ce_up cg1 (d) 3 (nI (p + 0)) = cg2
      have kcg2 := kcg1.p (p + 0) hcg2
      exact ce_vret dX8_accept_41 rfl (by decide) (by decide) ⟨rfl, rfl, kcg2⟩
    · omega
  · omega
set_option maxHeartbeats 2000000 in
set_option maxRecDepth 20000 in
theorem m_X8_accept01 {σ : ce_S} {g0 g : ce_D} (d len p : Nat) (F : ce_V) (T : Nat → Nat) (hD : ce_LM σ d) (h120 : len ≤ 120) (hp9 : p ≤ 1000) (hch : ∀ i, i < len → g0 (d + 1) i = nI (T i)) (hT : ∀ i, i < len → T i < 256) (h : kr_st g0 g d len p 0 F) : ce_CT (ce_r 0) mX8_accept [.ref (d), .int (nI (1))] σ g (ce_uv σ (fun g1 => kr_st g0 g1 d len (p + 0) 0 F)) ce_no := by
  refine ce_enter (by decide) rfl (Nat.le_of_ble_eq_true rfl) (L := [some (.ref (d)), some (.int (nI (1)))]) rfl ?_
  refine ce_aload_n dX8_accept_0 rfl ?_
  refine ce_aload_n dX8_accept_1 rfl ?_
  refine ce_getIv dX8_accept_2 fRX8_122 hD.1 (h).2.2.1 ?_
  refine ce_if_eqN (tgt := 16) dX8_accept_5 (by decide) rfl (by omega) (fun c_5 => ?_) (fun c_5 => ?_)
  · refine ce_iconst (v := nI (0)) dX8_accept_16 (by decide) ?_
    refine ce_putI dX8_accept_17 pRX8_122 hD.1 rfl rfl ?_
    generalize hcg1 : ce_up g (d) 4 (nI (0)) = cg1
    have kcg1 := h.q (0) hcg1
    refine ce_aload_n dX8_accept_20 rfl ?_
    refine ce_dup dX8_accept_21 rfl ?_
    refine ce_getIv dX8_accept_22 fRX8_119 hD.1 (kcg1).2.1 ?_
    refine ce_aload_n dX8_accept_25 rfl ?_
    refine ce_getIv dX8_accept_26 fRX8_122 hD.1 (kcg1).2.2.1 ?_
    refine ce_if_eqN (tgt := 36) dX8_accept_29 (by decide) rfl (by omega) (fun c_29 => ?_) (fun c_29 => ?_)
    · refine ce_iconst (v := nI (0)) dX8_accept_36 (by decide) ?_
      refine ce_iadd (z := nI (p + 0)) dX8_accept_37 (nI_add _ _) ?_
      refine ce_putI dX8_accept_38 pRX8_119 hD.1 rfl rfl ?_
      generalize hcg2 : ce_up cg1 (d) 3 (nI (p + 0)) = cg2
      have kcg2 := kcg1.p (p + 0) hcg2
      exact ce_vret dX8_accept_41 rfl (by decide) (by decide) ⟨rfl, rfl, kcg2⟩
    · omega
  · omega
set_option maxHeartbeats 2000000 in
set_option maxRecDepth 20000 in
theorem m_X8_accept10 {σ : ce_S} {g0 g : ce_D} (d len p : Nat) (F : ce_V) (T : Nat → Nat) (hD : ce_LM σ d) (h120 : len ≤ 120) (hp9 : p ≤ 1000) (hch : ∀ i, i < len → g0 (d + 1) i = nI (T i)) (hT : ∀ i, i < len → T i < 256) (h : kr_st g0 g d len p 1 F) : ce_CT (ce_r 0) mX8_accept [.ref (d), .int (nI (0))] σ g (ce_uv σ (fun g1 => kr_st g0 g1 d len (p + 0) 0 F)) ce_no := by
  refine ce_enter (by decide) rfl (Nat.le_of_ble_eq_true rfl) (L := [some (.ref (d)), some (.int (nI (0)))]) rfl ?_
  refine ce_aload_n dX8_accept_0 rfl ?_
  refine ce_aload_n dX8_accept_1 rfl ?_
  refine ce_getIv dX8_accept_2 fRX8_122 hD.1 (h).2.2.1 ?_
  refine ce_if_eqN (tgt := 16) dX8_accept_5 (by decide) rfl (by omega) (fun c_5 => ?_) (fun c_5 => ?_)
  · omega
  · refine ce_iload_n dX8_accept_8 rfl ?_
    refine ce_if_eqN (tgt := 16) dX8_accept_9 (by decide) rfl (by omega) (fun c_9 => ?_) (fun c_9 => ?_)
    · refine ce_iconst (v := nI (0)) dX8_accept_16 (by decide) ?_
      refine ce_putI dX8_accept_17 pRX8_122 hD.1 rfl rfl ?_
      generalize hcg1 : ce_up g (d) 4 (nI (0)) = cg1
      have kcg1 := h.q (0) hcg1
      refine ce_aload_n dX8_accept_20 rfl ?_
      refine ce_dup dX8_accept_21 rfl ?_
      refine ce_getIv dX8_accept_22 fRX8_119 hD.1 (kcg1).2.1 ?_
      refine ce_aload_n dX8_accept_25 rfl ?_
      refine ce_getIv dX8_accept_26 fRX8_122 hD.1 (kcg1).2.2.1 ?_
      refine ce_if_eqN (tgt := 36) dX8_accept_29 (by decide) rfl (by omega) (fun c_29 => ?_) (fun c_29 => ?_)
      · refine ce_iconst (v := nI (0)) dX8_accept_36 (by decide) ?_
        refine ce_iadd (z := nI (p + 0)) dX8_accept_37 (nI_add _ _) ?_
        refine ce_putI dX8_accept_38 pRX8_119 hD.1 rfl rfl ?_
        generalize hcg2 : ce_up cg1 (d) 3 (nI (p + 0)) = cg2
        have kcg2 := kcg1.p (p + 0) hcg2
        exact ce_vret dX8_accept_41 rfl (by decide) (by decide) ⟨rfl, rfl, kcg2⟩
      · omega
    · omega
set_option maxHeartbeats 2000000 in
set_option maxRecDepth 20000 in
theorem m_X8_accept11 {σ : ce_S} {g0 g : ce_D} (d len p : Nat) (F : ce_V) (T : Nat → Nat) (hD : ce_LM σ d) (h120 : len ≤ 120) (hp9 : p ≤ 1000) (hch : ∀ i, i < len → g0 (d + 1) i = nI (T i)) (hT : ∀ i, i < len → T i < 256) (h : kr_st g0 g d len p 1 F) : ce_CT (ce_r 0) mX8_accept [.ref (d), .int (nI (1))] σ g (ce_uv σ (fun g1 => kr_st g0 g1 d len (p + 1) 1 F)) ce_no := by
  refine ce_enter (by decide) rfl (Nat.le_of_ble_eq_true rfl) (L := [some (.ref (d)), some (.int (nI (1)))]) rfl ?_
  refine ce_aload_n dX8_accept_0 rfl ?_
  refine ce_aload_n dX8_accept_1 rfl ?_
  refine ce_getIv dX8_accept_2 fRX8_122 hD.1 (h).2.2.1 ?_
  refine ce_if_eqN (tgt := 16) dX8_accept_5 (by decide) rfl (by omega) (fun c_5 => ?_) (fun c_5 => ?_)
  · omega
  · refine ce_iload_n dX8_accept_8 rfl ?_
    refine ce_if_eqN (tgt := 16) dX8_accept_9 (by decide) rfl (by omega) (fun c_9 => ?_) (fun c_9 => ?_)
    · omega
    · refine ce_iconst (v := nI (1)) dX8_accept_12 (by decide) ?_
      refine ce_goto (tgt := 17) dX8_accept_13 (by decide) ?_
      refine ce_putI dX8_accept_17 pRX8_122 hD.1 rfl rfl ?_
      generalize hcg1 : ce_up g (d) 4 (nI (1)) = cg1
      have kcg1 := h.q (1) hcg1
      refine ce_aload_n dX8_accept_20 rfl ?_
      refine ce_dup dX8_accept_21 rfl ?_
      refine ce_getIv dX8_accept_22 fRX8_119 hD.1 (kcg1).2.1 ?_
      refine ce_aload_n dX8_accept_25 rfl ?_
      refine ce_getIv dX8_accept_26 fRX8_122 hD.1 (kcg1).2.2.1 ?_
      refine ce_if_eqN (tgt := 36) dX8_accept_29 (by decide) rfl (by omega) (fun c_29 => ?_) (fun c_29 => ?_)
      · omega
      · refine ce_iconst (v := nI (1)) dX8_accept_32 (by decide) ?_
        refine ce_goto (tgt := 37) dX8_accept_33 (by decide) ?_
        refine ce_iadd (z := nI (p + 1)) dX8_accept_37 (nI_add _ _) ?_
        refine ce_putI dX8_accept_38 pRX8_119 hD.1 rfl rfl ?_
        generalize hcg2 : ce_up cg1 (d) 3 (nI (p + 1)) = cg2
        have kcg2 := kcg1.p (p + 1) hcg2
        exact ce_vret dX8_accept_41 rfl (by decide) (by decide) ⟨rfl, rfl, kcg2⟩
theorem cr_s48 {n : Nat} (h : n < 256) : (nI n - nI 48).toInt = (n : Int) - 48 := by
  by_cases e : 48 ≤ n
  · rw [pk_sub e, nI_toInt (by omega)]
    omega
  · have h2 : ∀ m, m < 48 → (nI m - nI 48).toInt = (m : Int) - 48 := by decide +kernel
    exact h2 n (by omega)
set_option maxHeartbeats 2000000 in
set_option maxRecDepth 20000 in
theorem m_X8_digitY {σ : ce_S} {g0 g : ce_D} (d len p : Nat) (F : ce_V) (T : Nat → Nat) (hD : ce_LM σ d) (h120 : len ≤ 120) (hp9 : p ≤ 1000) (hch : ∀ i, i < len → g0 (d + 1) i = nI (T i)) (hT : ∀ i, i < len → T i < 256) (h : kr_st g0 g d len p 1 F) (lo hi : Nat) (hlo : lo < 1000) (hhi : hi < 1000) (ok : kr_ok T len lo hi p) : ce_CT (ce_r 1) mX8_digit [.ref (d), .int (nI (lo)), .int (nI (hi))] σ g (ce_rv σ (fun z9 g1 => z9 = nI (T p - 48) ∧ kr_st g0 g1 d len (p + 1) 1 F)) ce_no := by
  have okk : p < len ∧ 48 ≤ T p ∧ T p ≤ 57 ∧ lo ≤ T p - 48 ∧ T p - 48 ≤ hi := ok
  refine ce_enter (by decide) rfl (Nat.le_of_ble_eq_true rfl) (L := [some (.ref (d)), some (.int (nI (lo))), some (.int (nI (hi))), none]) rfl ?_
  refine ce_aload_n dX8_digit_0 rfl ?_
  refine ce_getIv dX8_digit_1 fRX8_119 hD.1 (h).2.1 ?_
  refine ce_aload_n dX8_digit_4 rfl ?_
  refine ce_getIv dX8_digit_5 fRX8_112 hD.1 (h).1 ?_
  refine ce_icmp_geN (tgt := 26) dX8_digit_8 (by decide) rfl rfl (by omega) (by omega) (fun c_8 => ?_) (fun c_8 => ?_)
  · refine ce_ldc dX8_digit_26 kRX8_65 ?_
    refine ce_istore_n dX8_digit_28 (Nat.le_of_ble_eq_true rfl) rfl ?_
    refine ce_aload_n dX8_digit_29 rfl ?_
    refine ce_iload_n dX8_digit_30 rfl ?_
    refine ce_i2l (v := ((-99999)).toInt64) dX8_digit_31 rfl ?_
    refine ce_lconst (v := 0) dX8_digit_32 (by decide) ?_
    refine ce_ldc2 dX8_digit_33 kRX8_126 ?_
    refine ce_cSp dX8_digit_36 hX8_in kRX8_108 (m_X8_in (((-99999)).toInt64) (0) (9) ((0 : Int) ≤ (-99999) ∧ (-99999) ≤ (9 : Int)) (cr_io ((cr_tl ((-99999))).trans (by decide)) (by decide) (by decide))) rfl rfl (by decide) (Nat.le_of_ble_eq_true rfl) ?_
    refine ce_if_eqB (tgt := 58) dX8_digit_39 (by decide) rfl (fun c_39 => ?_) (fun c_39 => ?_)
    · refine ce_iconst (v := nI (0)) dX8_digit_58 (by decide) ?_
      omega
    · refine ce_iload_n dX8_digit_42 rfl ?_
      refine ce_i2l (v := ((-99999)).toInt64) dX8_digit_43 rfl ?_
      refine ce_iload_n dX8_digit_44 rfl ?_
      refine ce_i2l (v := (nI (lo)).toInt64) dX8_digit_45 rfl ?_
      refine ce_iload_n dX8_digit_46 rfl ?_
      refine ce_i2l (v := (nI (hi)).toInt64) dX8_digit_47 rfl ?_
      refine ce_cSp dX8_digit_48 hX8_in kRX8_108 (m_X8_in (((-99999)).toInt64) ((nI (lo)).toInt64) ((nI (hi)).toInt64) ((((lo : Nat) : Int) : Int) ≤ (-99999) ∧ (-99999) ≤ (((hi : Nat) : Int) : Int)) (cr_io ((cr_tl ((-99999))).trans (by decide)) ((cr_tl (nI (lo))).trans (nI_toInt (by omega))) ((cr_tl (nI (hi))).trans (nI_toInt (by omega))))) rfl rfl (by decide) (Nat.le_of_ble_eq_true rfl) ?_
      refine ce_if_eqB (tgt := 58) dX8_digit_51 (by decide) rfl (fun c_51 => ?_) (fun c_51 => ?_)
      · refine ce_iconst (v := nI (0)) dX8_digit_58 (by decide) ?_
        omega
      · refine ce_iconst (v := nI (1)) dX8_digit_54 (by decide) ?_
        refine ce_goto (tgt := 59) dX8_digit_55 (by decide) ?_
        omega
  · have hTp := hT p (by omega)
    refine ce_aload_n dX8_digit_11 rfl ?_
    refine ce_getR dX8_digit_12 fRX8_7 hD.1 hD.2.1.1 ?_
    refine ce_aload_n dX8_digit_15 rfl ?_
    refine ce_getIv dX8_digit_16 fRX8_119 hD.1 (h).2.1 ?_
    refine ce_ialdv dX8_digit_19 (hD.2.2.1).1 rfl (hD.2.2.1).2 (by omega) (by decide) (h.ch hch _ (by omega)) ?_
    refine ce_bipush (v := nI (48)) dX8_digit_20 (by decide) ?_
    refine ce_isub (z := nI (T p - 48)) dX8_digit_22 (pk_sub (by omega)) ?_
    refine ce_goto (tgt := 28) dX8_digit_23 (by decide) ?_
    refine ce_istore_n dX8_digit_28 (Nat.le_of_ble_eq_true rfl) rfl ?_
    refine ce_aload_n dX8_digit_29 rfl ?_
    refine ce_iload_n dX8_digit_30 rfl ?_
    refine ce_i2l (v := (nI (T p - 48)).toInt64) dX8_digit_31 rfl ?_
    refine ce_lconst (v := 0) dX8_digit_32 (by decide) ?_
    refine ce_ldc2 dX8_digit_33 kRX8_126 ?_
    refine ce_cSp dX8_digit_36 hX8_in kRX8_108 (m_X8_in ((nI (T p - 48)).toInt64) (0) (9) ((0 : Int) ≤ ((T p - 48 : Nat) : Int) ∧ ((T p - 48 : Nat) : Int) ≤ (9 : Int)) (cr_io ((cr_tl (nI (T p - 48))).trans (nI_toInt (by omega))) (by decide) (by decide))) rfl rfl (by decide) (Nat.le_of_ble_eq_true rfl) ?_
    refine ce_if_eqB (tgt := 58) dX8_digit_39 (by decide) rfl (fun c_39 => ?_) (fun c_39 => ?_)
    · refine ce_iconst (v := nI (0)) dX8_digit_58 (by decide) ?_
      omega
    · refine ce_iload_n dX8_digit_42 rfl ?_
      refine ce_i2l (v := (nI (T p - 48)).toInt64) dX8_digit_43 rfl ?_
      refine ce_iload_n dX8_digit_44 rfl ?_
      refine ce_i2l (v := (nI (lo)).toInt64) dX8_digit_45 rfl ?_
      refine ce_iload_n dX8_digit_46 rfl ?_
      refine ce_i2l (v := (nI (hi)).toInt64) dX8_digit_47 rfl ?_
      refine ce_cSp dX8_digit_48 hX8_in kRX8_108 (m_X8_in ((nI (T p - 48)).toInt64) ((nI (lo)).toInt64) ((nI (hi)).toInt64) ((((lo : Nat) : Int) : Int) ≤ ((T p - 48 : Nat) : Int) ∧ ((T p - 48 : Nat) : Int) ≤ (((hi : Nat) : Int) : Int)) (cr_io ((cr_tl (nI (T p - 48))).trans (nI_toInt (by omega))) ((cr_tl (nI (lo))).trans (nI_toInt (by omega))) ((cr_tl (nI (hi))).trans (nI_toInt (by omega))))) rfl rfl (by decide) (Nat.le_of_ble_eq_true rfl) ?_
      refine ce_if_eqB (tgt := 58) dX8_digit_51 (by decide) rfl (fun c_51 => ?_) (fun c_51 => ?_)
      · refine ce_iconst (v := nI (0)) dX8_digit_58 (by decide) ?_
        omega
      · refine ce_iconst (v := nI (1)) dX8_digit_54 (by decide) ?_
        refine ce_goto (tgt := 59) dX8_digit_55 (by decide) ?_
        refine ce_cVu dX8_digit_59 hX8_accept kRX8_128 (m_X8_accept11 d len (p) (F) T hD h120 (by omega) hch hT h) rfl rfl hD.1 rfl (by decide) (Nat.le_of_ble_eq_true rfl) (fun cg1 hcg1 => ?_)
        refine ce_aload_n dX8_digit_62 rfl ?_
        refine ce_getIv dX8_digit_63 fRX8_122 hD.1 (hcg1).2.2.1 ?_
        refine ce_if_eqN (tgt := 73) dX8_digit_66 (by decide) rfl (by omega) (fun c_66 => ?_) (fun c_66 => ?_)
        · omega
        · refine ce_iload_n dX8_digit_69 rfl ?_
          refine ce_goto (tgt := 74) dX8_digit_70 (by decide) ?_
          refine ce_iret dX8_digit_74 rfl rfl (by decide) (by decide) ?_
          exact ⟨_, rfl, rfl, rfl, hcg1⟩
set_option maxHeartbeats 2000000 in
set_option maxRecDepth 20000 in
theorem m_X8_digitN {σ : ce_S} {g0 g : ce_D} (d len p : Nat) (F : ce_V) (T : Nat → Nat) (hD : ce_LM σ d) (h120 : len ≤ 120) (hp9 : p ≤ 1000) (hch : ∀ i, i < len → g0 (d + 1) i = nI (T i)) (hT : ∀ i, i < len → T i < 256) (h : kr_st g0 g d len p 1 F) (lo hi : Nat) (hlo : lo < 1000) (hhi : hi < 1000) (ok : ¬ kr_ok T len lo hi p) : ce_CT (ce_r 1) mX8_digit [.ref (d), .int (nI (lo)), .int (nI (hi))] σ g (ce_rv σ (fun z9 g1 => z9 = nI lo ∧ kr_st g0 g1 d len (p + 0) 0 F)) ce_no := by
  refine ce_enter (by decide) rfl (Nat.le_of_ble_eq_true rfl) (L := [some (.ref (d)), some (.int (nI (lo))), some (.int (nI (hi))), none]) rfl ?_
  refine ce_aload_n dX8_digit_0 rfl ?_
  refine ce_getIv dX8_digit_1 fRX8_119 hD.1 (h).2.1 ?_
  refine ce_aload_n dX8_digit_4 rfl ?_
  refine ce_getIv dX8_digit_5 fRX8_112 hD.1 (h).1 ?_
  refine ce_icmp_geN (tgt := 26) dX8_digit_8 (by decide) rfl rfl (by omega) (by omega) (fun c_8 => ?_) (fun c_8 => ?_)
  · refine ce_ldc dX8_digit_26 kRX8_65 ?_
    refine ce_istore_n dX8_digit_28 (Nat.le_of_ble_eq_true rfl) rfl ?_
    refine ce_aload_n dX8_digit_29 rfl ?_
    refine ce_iload_n dX8_digit_30 rfl ?_
    refine ce_i2l (v := ((-99999)).toInt64) dX8_digit_31 rfl ?_
    refine ce_lconst (v := 0) dX8_digit_32 (by decide) ?_
    refine ce_ldc2 dX8_digit_33 kRX8_126 ?_
    refine ce_cSp dX8_digit_36 hX8_in kRX8_108 (m_X8_in (((-99999)).toInt64) (0) (9) ((0 : Int) ≤ (-99999) ∧ (-99999) ≤ (9 : Int)) (cr_io ((cr_tl ((-99999))).trans (by decide)) (by decide) (by decide))) rfl rfl (by decide) (Nat.le_of_ble_eq_true rfl) ?_
    refine ce_if_eqB (tgt := 58) dX8_digit_39 (by decide) rfl (fun c_39 => ?_) (fun c_39 => ?_)
    · refine ce_iconst (v := nI (0)) dX8_digit_58 (by decide) ?_
      refine ce_cVu dX8_digit_59 hX8_accept kRX8_128 (m_X8_accept10 d len (p) (F) T hD h120 (by omega) hch hT h) rfl rfl hD.1 rfl (by decide) (Nat.le_of_ble_eq_true rfl) (fun cg1 hcg1 => ?_)
      refine ce_aload_n dX8_digit_62 rfl ?_
      refine ce_getIv dX8_digit_63 fRX8_122 hD.1 (hcg1).2.2.1 ?_
      refine ce_if_eqN (tgt := 73) dX8_digit_66 (by decide) rfl (by omega) (fun c_66 => ?_) (fun c_66 => ?_)
      · refine ce_iload_n dX8_digit_73 rfl ?_
        refine ce_iret dX8_digit_74 rfl rfl (by decide) (by decide) ?_
        exact ⟨_, rfl, rfl, rfl, hcg1⟩
      · omega
    · refine ce_iload_n dX8_digit_42 rfl ?_
      refine ce_i2l (v := ((-99999)).toInt64) dX8_digit_43 rfl ?_
      refine ce_iload_n dX8_digit_44 rfl ?_
      refine ce_i2l (v := (nI (lo)).toInt64) dX8_digit_45 rfl ?_
      refine ce_iload_n dX8_digit_46 rfl ?_
      refine ce_i2l (v := (nI (hi)).toInt64) dX8_digit_47 rfl ?_
      refine ce_cSp dX8_digit_48 hX8_in kRX8_108 (m_X8_in (((-99999)).toInt64) ((nI (lo)).toInt64) ((nI (hi)).toInt64) ((((lo : Nat) : Int) : Int) ≤ (-99999) ∧ (-99999) ≤ (((hi : Nat) : Int) : Int)) (cr_io ((cr_tl ((-99999))).trans (by decide)) ((cr_tl (nI (lo))).trans (nI_toInt (by omega))) ((cr_tl (nI (hi))).trans (nI_toInt (by omega))))) rfl rfl (by decide) (Nat.le_of_ble_eq_true rfl) ?_
      refine ce_if_eqB (tgt := 58) dX8_digit_51 (by decide) rfl (fun c_51 => ?_) (fun c_51 => ?_)
      · refine ce_iconst (v := nI (0)) dX8_digit_58 (by decide) ?_
        refine ce_cVu dX8_digit_59 hX8_accept kRX8_128 (m_X8_accept10 d len (p) (F) T hD h120 (by omega) hch hT h) rfl rfl hD.1 rfl (by decide) (Nat.le_of_ble_eq_true rfl) (fun cg1 hcg1 => ?_)
        refine ce_aload_n dX8_digit_62 rfl ?_
        refine ce_getIv dX8_digit_63 fRX8_122 hD.1 (hcg1).2.2.1 ?_
        refine ce_if_eqN (tgt := 73) dX8_digit_66 (by decide) rfl (by omega) (fun c_66 => ?_) (fun c_66 => ?_)
        · refine ce_iload_n dX8_digit_73 rfl ?_
          refine ce_iret dX8_digit_74 rfl rfl (by decide) (by decide) ?_
          exact ⟨_, rfl, rfl, rfl, hcg1⟩
        · omega
      · refine ce_iconst (v := nI (1)) dX8_digit_54 (by decide) ?_
        refine ce_goto (tgt := 59) dX8_digit_55 (by decide) ?_
        exact absurd ⟨by omega, by omega, by omega, by omega, by omega⟩ ok
  · have hTp := hT p (by omega)
    refine ce_aload_n dX8_digit_11 rfl ?_
    refine ce_getR dX8_digit_12 fRX8_7 hD.1 hD.2.1.1 ?_
    refine ce_aload_n dX8_digit_15 rfl ?_
    refine ce_getIv dX8_digit_16 fRX8_119 hD.1 (h).2.1 ?_
    refine ce_ialdv dX8_digit_19 (hD.2.2.1).1 rfl (hD.2.2.1).2 (by omega) (by decide) (h.ch hch _ (by omega)) ?_
    refine ce_bipush (v := nI (48)) dX8_digit_20 (by decide) ?_
    refine ce_isub (z := (nI (T (p))) - (nI (48))) dX8_digit_22 rfl ?_
    refine ce_goto (tgt := 28) dX8_digit_23 (by decide) ?_
    refine ce_istore_n dX8_digit_28 (Nat.le_of_ble_eq_true rfl) rfl ?_
    refine ce_aload_n dX8_digit_29 rfl ?_
    refine ce_iload_n dX8_digit_30 rfl ?_
    refine ce_i2l (v := ((nI (T (p))) - (nI (48))).toInt64) dX8_digit_31 rfl ?_
    refine ce_lconst (v := 0) dX8_digit_32 (by decide) ?_
    refine ce_ldc2 dX8_digit_33 kRX8_126 ?_
    refine ce_cSp dX8_digit_36 hX8_in kRX8_108 (m_X8_in (((nI (T (p))) - (nI (48))).toInt64) (0) (9) ((0 : Int) ≤ ((T p : Nat) : Int) - 48 ∧ ((T p : Nat) : Int) - 48 ≤ (9 : Int)) (cr_io ((cr_tl ((nI (T (p))) - (nI (48)))).trans (cr_s48 hTp)) (by decide) (by decide))) rfl rfl (by decide) (Nat.le_of_ble_eq_true rfl) ?_
    refine ce_if_eqB (tgt := 58) dX8_digit_39 (by decide) rfl (fun c_39 => ?_) (fun c_39 => ?_)
    · refine ce_iconst (v := nI (0)) dX8_digit_58 (by decide) ?_
      refine ce_cVu dX8_digit_59 hX8_accept kRX8_128 (m_X8_accept10 d len (p) (F) T hD h120 (by omega) hch hT h) rfl rfl hD.1 rfl (by decide) (Nat.le_of_ble_eq_true rfl) (fun cg1 hcg1 => ?_)
      refine ce_aload_n dX8_digit_62 rfl ?_
      refine ce_getIv dX8_digit_63 fRX8_122 hD.1 (hcg1).2.2.1 ?_
      refine ce_if_eqN (tgt := 73) dX8_digit_66 (by decide) rfl (by omega) (fun c_66 => ?_) (fun c_66 => ?_)
      · refine ce_iload_n dX8_digit_73 rfl ?_
        refine ce_iret dX8_digit_74 rfl rfl (by decide) (by decide) ?_
        exact ⟨_, rfl, rfl, rfl, hcg1⟩
      · omega
    · refine ce_iload_n dX8_digit_42 rfl ?_
      refine ce_i2l (v := ((nI (T (p))) - (nI (48))).toInt64) dX8_digit_43 rfl ?_
      refine ce_iload_n dX8_digit_44 rfl ?_
      refine ce_i2l (v := (nI (lo)).toInt64) dX8_digit_45 rfl ?_
      refine ce_iload_n dX8_digit_46 rfl ?_
      refine ce_i2l (v := (nI (hi)).toInt64) dX8_digit_47 rfl ?_
      refine ce_cSp dX8_digit_48 hX8_in kRX8_108 (m_X8_in (((nI (T (p))) - (nI (48))).toInt64) ((nI (lo)).toInt64) ((nI (hi)).toInt64) ((((lo : Nat) : Int) : Int) ≤ ((T p : Nat) : Int) - 48 ∧ ((T p : Nat) : Int) - 48 ≤ (((hi : Nat) : Int) : Int)) (cr_io ((cr_tl ((nI (T (p))) - (nI (48)))).trans (cr_s48 hTp)) ((cr_tl (nI (lo))).trans (nI_toInt (by omega))) ((cr_tl (nI (hi))).trans (nI_toInt (by omega))))) rfl rfl (by decide) (Nat.le_of_ble_eq_true rfl) ?_
      refine ce_if_eqB (tgt := 58) dX8_digit_51 (by decide) rfl (fun c_51 => ?_) (fun c_51 => ?_)
      · refine ce_iconst (v := nI (0)) dX8_digit_58 (by decide) ?_
        refine ce_cVu dX8_digit_59 hX8_accept kRX8_128 (m_X8_accept10 d len (p) (F) T hD h120 (by omega) hch hT h) rfl rfl hD.1 rfl (by decide) (Nat.le_of_ble_eq_true rfl) (fun cg1 hcg1 => ?_)
        refine ce_aload_n dX8_digit_62 rfl ?_
        refine ce_getIv dX8_digit_63 fRX8_122 hD.1 (hcg1).2.2.1 ?_
        refine ce_if_eqN (tgt := 73) dX8_digit_66 (by decide) rfl (by omega) (fun c_66 => ?_) (fun c_66 => ?_)
        · refine ce_iload_n dX8_digit_73 rfl ?_
          refine ce_iret dX8_digit_74 rfl rfl (by decide) (by decide) ?_
          exact ⟨_, rfl, rfl, rfl, hcg1⟩
        · omega
      · refine ce_iconst (v := nI (1)) dX8_digit_54 (by decide) ?_
        refine ce_goto (tgt := 59) dX8_digit_55 (by decide) ?_
        exact absurd ⟨by omega, by omega, by omega, by omega, by omega⟩ ok
set_option maxHeartbeats 2000000 in
set_option maxRecDepth 20000 in
theorem m_X8_digitF {σ : ce_S} {g0 g : ce_D} (d len p : Nat) (F : ce_V) (T : Nat → Nat) (hD : ce_LM σ d) (h120 : len ≤ 120) (hp9 : p ≤ 1000) (hch : ∀ i, i < len → g0 (d + 1) i = nI (T i)) (hT : ∀ i, i < len → T i < 256) (h : kr_st g0 g d len p 0 F) (lo hi : Int32) : ce_CT (ce_r 1) mX8_digit [.ref (d), .int (lo), .int (hi)] σ g (ce_rv σ (fun z9 g1 => z9 = lo ∧ kr_st g0 g1 d len (p + 0) 0 F)) ce_no := by
  refine ce_enter (by decide) rfl (Nat.le_of_ble_eq_true rfl) (L := [some (.ref (d)), some (.int (lo)), some (.int (hi)), none]) rfl ?_
  refine ce_aload_n dX8_digit_0 rfl ?_
  refine ce_getIv dX8_digit_1 fRX8_119 hD.1 (h).2.1 ?_
  refine ce_aload_n dX8_digit_4 rfl ?_
  refine ce_getIv dX8_digit_5 fRX8_112 hD.1 (h).1 ?_
  refine ce_icmp_geN (tgt := 26) dX8_digit_8 (by decide) rfl rfl (by omega) (by omega) (fun c_8 => ?_) (fun c_8 => ?_)
  · refine ce_ldc dX8_digit_26 kRX8_65 ?_
    refine ce_istore_n dX8_digit_28 (Nat.le_of_ble_eq_true rfl) rfl ?_
    refine ce_aload_n dX8_digit_29 rfl ?_
    refine ce_iload_n dX8_digit_30 rfl ?_
    refine ce_i2l (v := ((-99999)).toInt64) dX8_digit_31 rfl ?_
    refine ce_lconst (v := 0) dX8_digit_32 (by decide) ?_
    refine ce_ldc2 dX8_digit_33 kRX8_126 ?_
    refine ce_cSp dX8_digit_36 hX8_in kRX8_108 (m_X8_in (((-99999)).toInt64) (0) (9) ((0 : Int) ≤ (-99999) ∧ (-99999) ≤ (9 : Int)) (cr_io ((cr_tl ((-99999))).trans (by decide)) (by decide) (by decide))) rfl rfl (by decide) (Nat.le_of_ble_eq_true rfl) ?_
    refine ce_if_eqB (tgt := 58) dX8_digit_39 (by decide) rfl (fun c_39 => ?_) (fun c_39 => ?_)
    · refine ce_iconst (v := nI (0)) dX8_digit_58 (by decide) ?_
      refine ce_cVu dX8_digit_59 hX8_accept kRX8_128 (m_X8_accept00 d len (p) (F) T hD h120 (by omega) hch hT h) rfl rfl hD.1 rfl (by decide) (Nat.le_of_ble_eq_true rfl) (fun cg1 hcg1 => ?_)
      refine ce_aload_n dX8_digit_62 rfl ?_
      refine ce_getIv dX8_digit_63 fRX8_122 hD.1 (hcg1).2.2.1 ?_
      refine ce_if_eqN (tgt := 73) dX8_digit_66 (by decide) rfl (by omega) (fun c_66 => ?_) (fun c_66 => ?_)
      · refine ce_iload_n dX8_digit_73 rfl ?_
        refine ce_iret dX8_digit_74 rfl rfl (by decide) (by decide) ?_
        exact ⟨_, rfl, rfl, rfl, hcg1⟩
      · omega
    · refine ce_iload_n dX8_digit_42 rfl ?_
      refine ce_i2l (v := ((-99999)).toInt64) dX8_digit_43 rfl ?_
      refine ce_iload_n dX8_digit_44 rfl ?_
      refine ce_i2l (v := (lo).toInt64) dX8_digit_45 rfl ?_
      refine ce_iload_n dX8_digit_46 rfl ?_
      refine ce_i2l (v := (hi).toInt64) dX8_digit_47 rfl ?_
      refine ce_cSp dX8_digit_48 hX8_in kRX8_108 (m_X8_in (((-99999)).toInt64) ((lo).toInt64) ((hi).toInt64) (((lo).toInt : Int) ≤ (-99999) ∧ (-99999) ≤ ((hi).toInt : Int)) (cr_io ((cr_tl ((-99999))).trans (by decide)) ((cr_tl (lo)).trans rfl) ((cr_tl (hi)).trans rfl))) rfl rfl (by decide) (Nat.le_of_ble_eq_true rfl) ?_
      refine ce_if_eqB (tgt := 58) dX8_digit_51 (by decide) rfl (fun c_51 => ?_) (fun c_51 => ?_)
      · refine ce_iconst (v := nI (0)) dX8_digit_58 (by decide) ?_
        refine ce_cVu dX8_digit_59 hX8_accept kRX8_128 (m_X8_accept00 d len (p) (F) T hD h120 (by omega) hch hT h) rfl rfl hD.1 rfl (by decide) (Nat.le_of_ble_eq_true rfl) (fun cg1 hcg1 => ?_)
        refine ce_aload_n dX8_digit_62 rfl ?_
        refine ce_getIv dX8_digit_63 fRX8_122 hD.1 (hcg1).2.2.1 ?_
        refine ce_if_eqN (tgt := 73) dX8_digit_66 (by decide) rfl (by omega) (fun c_66 => ?_) (fun c_66 => ?_)
        · refine ce_iload_n dX8_digit_73 rfl ?_
          refine ce_iret dX8_digit_74 rfl rfl (by decide) (by decide) ?_
          exact ⟨_, rfl, rfl, rfl, hcg1⟩
        · omega
      · refine ce_iconst (v := nI (1)) dX8_digit_54 (by decide) ?_
        refine ce_goto (tgt := 59) dX8_digit_55 (by decide) ?_
        refine ce_cVu dX8_digit_59 hX8_accept kRX8_128 (m_X8_accept01 d len (p) (F) T hD h120 (by omega) hch hT h) rfl rfl hD.1 rfl (by decide) (Nat.le_of_ble_eq_true rfl) (fun cg1 hcg1 => ?_)
        refine ce_aload_n dX8_digit_62 rfl ?_
        refine ce_getIv dX8_digit_63 fRX8_122 hD.1 (hcg1).2.2.1 ?_
        refine ce_if_eqN (tgt := 73) dX8_digit_66 (by decide) rfl (by omega) (fun c_66 => ?_) (fun c_66 => ?_)
        · refine ce_iload_n dX8_digit_73 rfl ?_
          refine ce_iret dX8_digit_74 rfl rfl (by decide) (by decide) ?_
          exact ⟨_, rfl, rfl, rfl, hcg1⟩
        · omega
  · have hTp := hT p (by omega)
    refine ce_aload_n dX8_digit_11 rfl ?_
    refine ce_getR dX8_digit_12 fRX8_7 hD.1 hD.2.1.1 ?_
    refine ce_aload_n dX8_digit_15 rfl ?_
    refine ce_getIv dX8_digit_16 fRX8_119 hD.1 (h).2.1 ?_
    refine ce_ialdv dX8_digit_19 (hD.2.2.1).1 rfl (hD.2.2.1).2 (by omega) (by decide) (h.ch hch _ (by omega)) ?_
    refine ce_bipush (v := nI (48)) dX8_digit_20 (by decide) ?_
    refine ce_isub (z := (nI (T (p))) - (nI (48))) dX8_digit_22 rfl ?_
    refine ce_goto (tgt := 28) dX8_digit_23 (by decide) ?_
    refine ce_istore_n dX8_digit_28 (Nat.le_of_ble_eq_true rfl) rfl ?_
    refine ce_aload_n dX8_digit_29 rfl ?_
    refine ce_iload_n dX8_digit_30 rfl ?_
    refine ce_i2l (v := ((nI (T (p))) - (nI (48))).toInt64) dX8_digit_31 rfl ?_
    refine ce_lconst (v := 0) dX8_digit_32 (by decide) ?_
    refine ce_ldc2 dX8_digit_33 kRX8_126 ?_
    refine ce_cSp dX8_digit_36 hX8_in kRX8_108 (m_X8_in (((nI (T (p))) - (nI (48))).toInt64) (0) (9) ((0 : Int) ≤ ((T p : Nat) : Int) - 48 ∧ ((T p : Nat) : Int) - 48 ≤ (9 : Int)) (cr_io ((cr_tl ((nI (T (p))) - (nI (48)))).trans (cr_s48 hTp)) (by decide) (by decide))) rfl rfl (by decide) (Nat.le_of_ble_eq_true rfl) ?_
    refine ce_if_eqB (tgt := 58) dX8_digit_39 (by decide) rfl (fun c_39 => ?_) (fun c_39 => ?_)
    · refine ce_iconst (v := nI (0)) dX8_digit_58 (by decide) ?_
      refine ce_cVu dX8_digit_59 hX8_accept kRX8_128 (m_X8_accept00 d len (p) (F) T hD h120 (by omega) hch hT h) rfl rfl hD.1 rfl (by decide) (Nat.le_of_ble_eq_true rfl) (fun cg1 hcg1 => ?_)
      refine ce_aload_n dX8_digit_62 rfl ?_
      refine ce_getIv dX8_digit_63 fRX8_122 hD.1 (hcg1).2.2.1 ?_
      refine ce_if_eqN (tgt := 73) dX8_digit_66 (by decide) rfl (by omega) (fun c_66 => ?_) (fun c_66 => ?_)
      · refine ce_iload_n dX8_digit_73 rfl ?_
        refine ce_iret dX8_digit_74 rfl rfl (by decide) (by decide) ?_
        exact ⟨_, rfl, rfl, rfl, hcg1⟩
      · omega
    · refine ce_iload_n dX8_digit_42 rfl ?_
      refine ce_i2l (v := ((nI (T (p))) - (nI (48))).toInt64) dX8_digit_43 rfl ?_
      refine ce_iload_n dX8_digit_44 rfl ?_
      refine ce_i2l (v := (lo).toInt64) dX8_digit_45 rfl ?_
      refine ce_iload_n dX8_digit_46 rfl ?_
      refine ce_i2l (v := (hi).toInt64) dX8_digit_47 rfl ?_
      refine ce_cSp dX8_digit_48 hX8_in kRX8_108 (m_X8_in (((nI (T (p))) - (nI (48))).toInt64) ((lo).toInt64) ((hi).toInt64) (((lo).toInt : Int) ≤ ((T p : Nat) : Int) - 48 ∧ ((T p : Nat) : Int) - 48 ≤ ((hi).toInt : Int)) (cr_io ((cr_tl ((nI (T (p))) - (nI (48)))).trans (cr_s48 hTp)) ((cr_tl (lo)).trans rfl) ((cr_tl (hi)).trans rfl))) rfl rfl (by decide) (Nat.le_of_ble_eq_true rfl) ?_
      refine ce_if_eqB (tgt := 58) dX8_digit_51 (by decide) rfl (fun c_51 => ?_) (fun c_51 => ?_)
      · refine ce_iconst (v := nI (0)) dX8_digit_58 (by decide) ?_
        refine ce_cVu dX8_digit_59 hX8_accept kRX8_128 (m_X8_accept00 d len (p) (F) T hD h120 (by omega) hch hT h) rfl rfl hD.1 rfl (by decide) (Nat.le_of_ble_eq_true rfl) (fun cg1 hcg1 => ?_)
        refine ce_aload_n dX8_digit_62 rfl ?_
        refine ce_getIv dX8_digit_63 fRX8_122 hD.1 (hcg1).2.2.1 ?_
        refine ce_if_eqN (tgt := 73) dX8_digit_66 (by decide) rfl (by omega) (fun c_66 => ?_) (fun c_66 => ?_)
        · refine ce_iload_n dX8_digit_73 rfl ?_
          refine ce_iret dX8_digit_74 rfl rfl (by decide) (by decide) ?_
          exact ⟨_, rfl, rfl, rfl, hcg1⟩
        · omega
      · refine ce_iconst (v := nI (1)) dX8_digit_54 (by decide) ?_
        refine ce_goto (tgt := 59) dX8_digit_55 (by decide) ?_
        refine ce_cVu dX8_digit_59 hX8_accept kRX8_128 (m_X8_accept01 d len (p) (F) T hD h120 (by omega) hch hT h) rfl rfl hD.1 rfl (by decide) (Nat.le_of_ble_eq_true rfl) (fun cg1 hcg1 => ?_)
        refine ce_aload_n dX8_digit_62 rfl ?_
        refine ce_getIv dX8_digit_63 fRX8_122 hD.1 (hcg1).2.2.1 ?_
        refine ce_if_eqN (tgt := 73) dX8_digit_66 (by decide) rfl (by omega) (fun c_66 => ?_) (fun c_66 => ?_)
        · refine ce_iload_n dX8_digit_73 rfl ?_
          refine ce_iret dX8_digit_74 rfl rfl (by decide) (by decide) ?_
          exact ⟨_, rfl, rfl, rfl, hcg1⟩
        · omega
def kr_two (g0 g1 : ce_D) (d len : Nat) (F : ce_V) (r : Option Nat × Nat) (z : Int32) : Prop := (∀ n, r.1 = some n → z = nI n ∧ kr_st g0 g1 d len r.2 1 F) ∧ (r.1 = none → kr_st g0 g1 d len r.2 0 F)
theorem kr_two_y {g0 g1 : ce_D} {d len n q : Nat} {F : ce_V} {r : Option Nat × Nat} {z : Int32} (e : r = (some n, q)) (hz : z = nI n) (h : kr_st g0 g1 d len q 1 F) : kr_two g0 g1 d len F r z := by
  subst e
  exact ⟨fun m hm => by cases hm; exact ⟨hz, h⟩, fun h => (by cases h)⟩
theorem kr_two_n {g0 g1 : ce_D} {d len q : Nat} {F : ce_V} {r : Option Nat × Nat} {z : Int32} (e : r = (none, q)) (h : kr_st g0 g1 d len q 0 F) : kr_two g0 g1 d len F r z := by
  subst e
  exact ⟨fun m hm => (by cases hm), fun _ => h⟩
theorem cr_sN {a b : Nat} (ha : a < 10000) (hb : b < 10000) : (nI a - nI b).toInt = (a : Int) - (b : Int) := by
  rw [Int32.toInt_sub, nI_toInt (by omega), nI_toInt (by omega)]
  exact Int.bmod_eq_of_le (by omega) (by omega)
set_option maxHeartbeats 2000000 in
set_option maxRecDepth 20000 in
theorem m_X8_twoT {σ : ce_S} {g0 g : ce_D} (d len p : Nat) (F : ce_V) (T : Nat → Nat) (hD : ce_LM σ d) (h120 : len ≤ 120) (hp9 : p ≤ 1000) (hch : ∀ i, i < len → g0 (d + 1) i = nI (T i)) (hT : ∀ i, i < len → T i < 256) (h : kr_st g0 g d len p 1 F) (lo hi : Nat) (hlo : lo ≤ hi) (hhi : hi < 100) : ce_CT (ce_r 2) mX8_two [.ref (d), .int (nI (lo)), .int (nI (hi))] σ g (ce_rv σ (fun z9 g1 => kr_two g0 g1 d len F (kx_num T len lo hi [10, 1] 0 p) z9)) ce_no := by
  refine ce_enter (by decide) rfl (Nat.le_of_ble_eq_true rfl) (L := [some (.ref (d)), some (.int (nI (lo))), some (.int (nI (hi))), none, none, none]) rfl ?_
  refine ce_aload_n dX8_two_0 rfl ?_
  refine ce_iload_n dX8_two_1 rfl ?_
  refine ce_bipush (v := nI (10)) dX8_two_2 (by decide) ?_
  refine ce_idiv (z := nI ((lo) / (10))) dX8_two_4 (nI_ne0 (by omega) (by omega)) (pk_div (by omega) (by omega) (by omega)) ?_
  refine ce_iload_n dX8_two_5 rfl ?_
  refine ce_bipush (v := nI (10)) dX8_two_6 (by decide) ?_
  refine ce_idiv (z := nI ((hi) / (10))) dX8_two_8 (nI_ne0 (by omega) (by omega)) (pk_div (by omega) (by omega) (by omega)) ?_
  by_cases ok0 : kr_ok T len ((lo) / (10)) ((hi) / (10)) (p)
  · have hTk0 := hT (p)
    have okq0 := ok0.2.2
    have okr0 := ok0.1
    refine ce_cVr dX8_two_9 hX8_digit kRX8_132 (m_X8_digitY d len (p) (F) T hD h120 (by omega) hch hT h ((lo) / (10)) ((hi) / (10)) (by omega) (by omega) ok0) rfl rfl hD.1 rfl (by decide) (Nat.le_of_ble_eq_true rfl) (fun rcg1 cg1 hcg1 => ?_)
    have ecg1 := hcg1.1
    subst ecg1
    refine ce_istore_n dX8_two_12 (Nat.le_of_ble_eq_true rfl) rfl ?_
    by_cases hng : 10 * (T p - 48) ≤ lo
    · have hq := ok0.2.2
      have hq1 := ok0.1
      refine ce_iload_n dX8_two_13 rfl ?_
      refine ce_bipush (v := nI (10)) dX8_two_14 (by decide) ?_
      refine ce_iload_n dX8_two_16 rfl ?_
      refine ce_imul (z := nI ((10) * (T (p) - 48))) dX8_two_17 (pk_mul _ _) ?_
      refine ce_isub (z := nI (lo - ((10) * (T (p) - 48)))) dX8_two_18 (pk_sub (by omega)) ?_
      refine ce_istore dX8_two_19 (Nat.le_of_ble_eq_true rfl) rfl ?_
      refine ce_iload_n dX8_two_21 rfl ?_
      refine ce_bipush (v := nI (10)) dX8_two_22 (by decide) ?_
      refine ce_iload_n dX8_two_24 rfl ?_
      refine ce_imul (z := nI ((10) * (T (p) - 48))) dX8_two_25 (pk_mul _ _) ?_
      refine ce_isub (z := nI (hi - ((10) * (T (p) - 48)))) dX8_two_26 (pk_sub (by omega)) ?_
      refine ce_istore dX8_two_27 (Nat.le_of_ble_eq_true rfl) rfl ?_
      refine ce_bipush (v := nI (10)) dX8_two_29 (by decide) ?_
      refine ce_iload_n dX8_two_31 rfl ?_
      refine ce_imul (z := nI ((10) * (T (p) - 48))) dX8_two_32 (pk_mul _ _) ?_
      refine ce_aload_n dX8_two_33 rfl ?_
      refine ce_iload dX8_two_34 rfl ?_
      refine ce_if_geN (tgt := 43) dX8_two_36 (by decide) rfl (by omega) (fun c_36 => ?_) (fun c_36 => ?_)
      · refine ce_iload dX8_two_43 rfl ?_
        refine ce_iload dX8_two_45 rfl ?_
        refine ce_bipush (v := nI (9)) dX8_two_47 (by decide) ?_
        refine ce_icmp_leN (tgt := 57) dX8_two_49 (by decide) rfl rfl (by omega) (by omega) (fun c_49 => ?_) (fun c_49 => ?_)
        · refine ce_iload dX8_two_57 rfl ?_
          by_cases ok1 : kr_ok T len (lo - ((10) * (T (p) - 48))) (hi - ((10) * (T (p) - 48))) (p + 1)
          · have hTk1 := hT (p + 1)
            have okq1 := ok1.2.2
            have okr1 := ok1.1
            refine ce_cVr dX8_two_59 hX8_digit kRX8_132 (m_X8_digitY d len (p + 1) (F) T hD h120 (by omega) hch hT hcg1.2 (lo - ((10) * (T (p) - 48))) (hi - ((10) * (T (p) - 48))) (by omega) (by omega) ok1) rfl rfl hD.1 rfl (by decide) (Nat.le_of_ble_eq_true rfl) (fun rcg2 cg2 hcg2 => ?_)
            have ecg2 := hcg2.1
            subst ecg2
            refine ce_iadd (z := nI ((10) * (T (p) - 48) + (T (p + 1) - 48))) dX8_two_62 (nI_add _ _) ?_
            refine ce_iret dX8_two_63 rfl rfl (by decide) (by decide) ?_
            exact ⟨_, rfl, rfl, kr_two_y ((kx2_y ok0).trans (kx2_yy ok1 (by omega) (by omega))) rfl hcg2.2⟩
          · have hTk1 := hT (p + 1)
            refine ce_cVr dX8_two_59 hX8_digit kRX8_132 (m_X8_digitN d len (p + 1) (F) T hD h120 (by omega) hch hT hcg1.2 (lo - ((10) * (T (p) - 48))) (hi - ((10) * (T (p) - 48))) (by omega) (by omega) ok1) rfl rfl hD.1 rfl (by decide) (Nat.le_of_ble_eq_true rfl) (fun rcg2 cg2 hcg2 => ?_)
            have ecg2 := hcg2.1
            subst ecg2
            refine ce_iadd (z := nI ((10) * (T (p) - 48) + (lo - ((10) * (T (p) - 48))))) dX8_two_62 (nI_add _ _) ?_
            refine ce_iret dX8_two_63 rfl rfl (by decide) (by decide) ?_
            exact ⟨_, rfl, rfl, kr_two_n ((kx2_y ok0).trans (kx2_yn ok1 (by omega) (by omega))) hcg2.2⟩
        · refine ce_bipush (v := nI (9)) dX8_two_52 (by decide) ?_
          refine ce_goto (tgt := 59) dX8_two_54 (by decide) ?_
          by_cases ok1 : kr_ok T len (lo - ((10) * (T (p) - 48))) (9) (p + 1)
          · have hTk1 := hT (p + 1)
            have okq1 := ok1.2.2
            have okr1 := ok1.1
            refine ce_cVr dX8_two_59 hX8_digit kRX8_132 (m_X8_digitY d len (p + 1) (F) T hD h120 (by omega) hch hT hcg1.2 (lo - ((10) * (T (p) - 48))) (9) (by omega) (by omega) ok1) rfl rfl hD.1 rfl (by decide) (Nat.le_of_ble_eq_true rfl) (fun rcg2 cg2 hcg2 => ?_)
            have ecg2 := hcg2.1
            subst ecg2
            refine ce_iadd (z := nI ((10) * (T (p) - 48) + (T (p + 1) - 48))) dX8_two_62 (nI_add _ _) ?_
            refine ce_iret dX8_two_63 rfl rfl (by decide) (by decide) ?_
            exact ⟨_, rfl, rfl, kr_two_y ((kx2_y ok0).trans (kx2_yy ok1 (by omega) (by omega))) rfl hcg2.2⟩
          · have hTk1 := hT (p + 1)
            refine ce_cVr dX8_two_59 hX8_digit kRX8_132 (m_X8_digitN d len (p + 1) (F) T hD h120 (by omega) hch hT hcg1.2 (lo - ((10) * (T (p) - 48))) (9) (by omega) (by omega) ok1) rfl rfl hD.1 rfl (by decide) (Nat.le_of_ble_eq_true rfl) (fun rcg2 cg2 hcg2 => ?_)
            have ecg2 := hcg2.1
            subst ecg2
            refine ce_iadd (z := nI ((10) * (T (p) - 48) + (lo - ((10) * (T (p) - 48))))) dX8_two_62 (nI_add _ _) ?_
            refine ce_iret dX8_two_63 rfl rfl (by decide) (by decide) ?_
            exact ⟨_, rfl, rfl, kr_two_n ((kx2_y ok0).trans (kx2_yn ok1 (by omega) (by omega))) hcg2.2⟩
      · omega
    · have hq := ok0.2.2
      have hq1 := ok0.1
      refine ce_iload_n dX8_two_13 rfl ?_
      refine ce_bipush (v := nI (10)) dX8_two_14 (by decide) ?_
      refine ce_iload_n dX8_two_16 rfl ?_
      refine ce_imul (z := nI ((10) * (T (p) - 48))) dX8_two_17 (pk_mul _ _) ?_
      refine ce_isub (z := (nI (lo)) - (nI ((10) * (T (p) - 48)))) dX8_two_18 rfl ?_
      refine ce_istore dX8_two_19 (Nat.le_of_ble_eq_true rfl) rfl ?_
      refine ce_iload_n dX8_two_21 rfl ?_
      refine ce_bipush (v := nI (10)) dX8_two_22 (by decide) ?_
      refine ce_iload_n dX8_two_24 rfl ?_
      refine ce_imul (z := nI ((10) * (T (p) - 48))) dX8_two_25 (pk_mul _ _) ?_
      refine ce_isub (z := nI (hi - ((10) * (T (p) - 48)))) dX8_two_26 (pk_sub (by omega)) ?_
      refine ce_istore dX8_two_27 (Nat.le_of_ble_eq_true rfl) rfl ?_
      refine ce_bipush (v := nI (10)) dX8_two_29 (by decide) ?_
      refine ce_iload_n dX8_two_31 rfl ?_
      refine ce_imul (z := nI ((10) * (T (p) - 48))) dX8_two_32 (pk_mul _ _) ?_
      refine ce_aload_n dX8_two_33 rfl ?_
      refine ce_iload dX8_two_34 rfl ?_
      refine ce_if_geI (tgt := 43) dX8_two_36 (by decide) (p := ((lo : Nat) : Int) - ((10 * (T p - 48) : Nat) : Int)) (cr_sN (by omega) (by omega)) (fun c_36 => ?_) (fun c_36 => ?_)
      · omega
      · refine ce_iconst (v := nI (0)) dX8_two_39 (by decide) ?_
        refine ce_goto (tgt := 45) dX8_two_40 (by decide) ?_
        refine ce_iload dX8_two_45 rfl ?_
        refine ce_bipush (v := nI (9)) dX8_two_47 (by decide) ?_
        refine ce_icmp_leN (tgt := 57) dX8_two_49 (by decide) rfl rfl (by omega) (by omega) (fun c_49 => ?_) (fun c_49 => ?_)
        · refine ce_iload dX8_two_57 rfl ?_
          by_cases ok1 : kr_ok T len (0) (hi - ((10) * (T (p) - 48))) (p + 1)
          · have hTk1 := hT (p + 1)
            have okq1 := ok1.2.2
            have okr1 := ok1.1
            refine ce_cVr dX8_two_59 hX8_digit kRX8_132 (m_X8_digitY d len (p + 1) (F) T hD h120 (by omega) hch hT hcg1.2 (0) (hi - ((10) * (T (p) - 48))) (by omega) (by omega) ok1) rfl rfl hD.1 rfl (by decide) (Nat.le_of_ble_eq_true rfl) (fun rcg2 cg2 hcg2 => ?_)
            have ecg2 := hcg2.1
            subst ecg2
            refine ce_iadd (z := nI ((10) * (T (p) - 48) + (T (p + 1) - 48))) dX8_two_62 (nI_add _ _) ?_
            refine ce_iret dX8_two_63 rfl rfl (by decide) (by decide) ?_
            exact ⟨_, rfl, rfl, kr_two_y ((kx2_y ok0).trans (kx2_yy ok1 (by omega) (by omega))) rfl hcg2.2⟩
          · have hTk1 := hT (p + 1)
            refine ce_cVr dX8_two_59 hX8_digit kRX8_132 (m_X8_digitN d len (p + 1) (F) T hD h120 (by omega) hch hT hcg1.2 (0) (hi - ((10) * (T (p) - 48))) (by omega) (by omega) ok1) rfl rfl hD.1 rfl (by decide) (Nat.le_of_ble_eq_true rfl) (fun rcg2 cg2 hcg2 => ?_)
            have ecg2 := hcg2.1
            subst ecg2
            refine ce_iadd (z := nI ((10) * (T (p) - 48) + 0)) dX8_two_62 (nI_add _ _) ?_
            refine ce_iret dX8_two_63 rfl rfl (by decide) (by decide) ?_
            exact ⟨_, rfl, rfl, kr_two_n ((kx2_y ok0).trans (kx2_yn ok1 (by omega) (by omega))) hcg2.2⟩
        · refine ce_bipush (v := nI (9)) dX8_two_52 (by decide) ?_
          refine ce_goto (tgt := 59) dX8_two_54 (by decide) ?_
          by_cases ok1 : kr_ok T len (0) (9) (p + 1)
          · have hTk1 := hT (p + 1)
            have okq1 := ok1.2.2
            have okr1 := ok1.1
            refine ce_cVr dX8_two_59 hX8_digit kRX8_132 (m_X8_digitY d len (p + 1) (F) T hD h120 (by omega) hch hT hcg1.2 (0) (9) (by omega) (by omega) ok1) rfl rfl hD.1 rfl (by decide) (Nat.le_of_ble_eq_true rfl) (fun rcg2 cg2 hcg2 => ?_)
            have ecg2 := hcg2.1
            subst ecg2
            refine ce_iadd (z := nI ((10) * (T (p) - 48) + (T (p + 1) - 48))) dX8_two_62 (nI_add _ _) ?_
            refine ce_iret dX8_two_63 rfl rfl (by decide) (by decide) ?_
            exact ⟨_, rfl, rfl, kr_two_y ((kx2_y ok0).trans (kx2_yy ok1 (by omega) (by omega))) rfl hcg2.2⟩
          · have hTk1 := hT (p + 1)
            refine ce_cVr dX8_two_59 hX8_digit kRX8_132 (m_X8_digitN d len (p + 1) (F) T hD h120 (by omega) hch hT hcg1.2 (0) (9) (by omega) (by omega) ok1) rfl rfl hD.1 rfl (by decide) (Nat.le_of_ble_eq_true rfl) (fun rcg2 cg2 hcg2 => ?_)
            have ecg2 := hcg2.1
            subst ecg2
            refine ce_iadd (z := nI ((10) * (T (p) - 48) + 0)) dX8_two_62 (nI_add _ _) ?_
            refine ce_iret dX8_two_63 rfl rfl (by decide) (by decide) ?_
            exact ⟨_, rfl, rfl, kr_two_n ((kx2_y ok0).trans (kx2_yn ok1 (by omega) (by omega))) hcg2.2⟩
  · have hTk0 := hT (p)
    refine ce_cVr dX8_two_9 hX8_digit kRX8_132 (m_X8_digitN d len (p) (F) T hD h120 (by omega) hch hT h ((lo) / (10)) ((hi) / (10)) (by omega) (by omega) ok0) rfl rfl hD.1 rfl (by decide) (Nat.le_of_ble_eq_true rfl) (fun rcg1 cg1 hcg1 => ?_)
    have ecg1 := hcg1.1
    subst ecg1
    refine ce_istore_n dX8_two_12 (Nat.le_of_ble_eq_true rfl) rfl ?_
    refine ce_iload_n dX8_two_13 rfl ?_
    refine ce_bipush (v := nI (10)) dX8_two_14 (by decide) ?_
    refine ce_iload_n dX8_two_16 rfl ?_
    refine ce_imul (z := nI ((10) * ((lo) / (10)))) dX8_two_17 (pk_mul _ _) ?_
    refine ce_isub (z := nI (lo - ((10) * ((lo) / (10))))) dX8_two_18 (pk_sub (by omega)) ?_
    refine ce_istore dX8_two_19 (Nat.le_of_ble_eq_true rfl) rfl ?_
    refine ce_iload_n dX8_two_21 rfl ?_
    refine ce_bipush (v := nI (10)) dX8_two_22 (by decide) ?_
    refine ce_iload_n dX8_two_24 rfl ?_
    refine ce_imul (z := nI ((10) * ((lo) / (10)))) dX8_two_25 (pk_mul _ _) ?_
    refine ce_isub (z := nI (hi - ((10) * ((lo) / (10))))) dX8_two_26 (pk_sub (by omega)) ?_
    refine ce_istore dX8_two_27 (Nat.le_of_ble_eq_true rfl) rfl ?_
    refine ce_bipush (v := nI (10)) dX8_two_29 (by decide) ?_
    refine ce_iload_n dX8_two_31 rfl ?_
    refine ce_imul (z := nI ((10) * ((lo) / (10)))) dX8_two_32 (pk_mul _ _) ?_
    refine ce_aload_n dX8_two_33 rfl ?_
    refine ce_iload dX8_two_34 rfl ?_
    refine ce_if_geN (tgt := 43) dX8_two_36 (by decide) rfl (by omega) (fun c_36 => ?_) (fun c_36 => ?_)
    · refine ce_iload dX8_two_43 rfl ?_
      refine ce_iload dX8_two_45 rfl ?_
      refine ce_bipush (v := nI (9)) dX8_two_47 (by decide) ?_
      refine ce_icmp_leN (tgt := 57) dX8_two_49 (by decide) rfl rfl (by omega) (by omega) (fun c_49 => ?_) (fun c_49 => ?_)
      · refine ce_iload dX8_two_57 rfl ?_
        refine ce_cVr dX8_two_59 hX8_digit kRX8_132 (m_X8_digitF d len (p + 0) (F) T hD h120 (by omega) hch hT hcg1.2 (nI (lo - ((10) * ((lo) / (10))))) (nI (hi - ((10) * ((lo) / (10)))))) rfl rfl hD.1 rfl (by decide) (Nat.le_of_ble_eq_true rfl) (fun rcg2 cg2 hcg2 => ?_)
        have ecg2 := hcg2.1
        subst ecg2
        refine ce_iadd (z := nI ((10) * ((lo) / (10)) + (lo - ((10) * ((lo) / (10)))))) dX8_two_62 (nI_add _ _) ?_
        refine ce_iret dX8_two_63 rfl rfl (by decide) (by decide) ?_
        exact ⟨_, rfl, rfl, kr_two_n (kx2_n ok0) hcg2.2⟩
      · refine ce_bipush (v := nI (9)) dX8_two_52 (by decide) ?_
        refine ce_goto (tgt := 59) dX8_two_54 (by decide) ?_
        refine ce_cVr dX8_two_59 hX8_digit kRX8_132 (m_X8_digitF d len (p + 0) (F) T hD h120 (by omega) hch hT hcg1.2 (nI (lo - ((10) * ((lo) / (10))))) (nI (9))) rfl rfl hD.1 rfl (by decide) (Nat.le_of_ble_eq_true rfl) (fun rcg2 cg2 hcg2 => ?_)
        have ecg2 := hcg2.1
        subst ecg2
        refine ce_iadd (z := nI ((10) * ((lo) / (10)) + (lo - ((10) * ((lo) / (10)))))) dX8_two_62 (nI_add _ _) ?_
        refine ce_iret dX8_two_63 rfl rfl (by decide) (by decide) ?_
        exact ⟨_, rfl, rfl, kr_two_n (kx2_n ok0) hcg2.2⟩
    · omega
set_option maxHeartbeats 2000000 in
set_option maxRecDepth 20000 in
theorem m_X8_twoF {σ : ce_S} {g0 g : ce_D} (d len p : Nat) (F : ce_V) (T : Nat → Nat) (hD : ce_LM σ d) (h120 : len ≤ 120) (hp9 : p ≤ 1000) (hch : ∀ i, i < len → g0 (d + 1) i = nI (T i)) (hT : ∀ i, i < len → T i < 256) (h : kr_st g0 g d len p 0 F) (lo hi : Nat) (hlo : lo ≤ hi) (hhi : hi < 100) : ce_CT (ce_r 2) mX8_two [.ref (d), .int (nI (lo)), .int (nI (hi))] σ g (ce_rv σ (fun _ g1 => kr_st g0 g1 d len (p + 0 + 0) 0 F)) ce_no := by
  refine ce_enter (by decide) rfl (Nat.le_of_ble_eq_true rfl) (L := [some (.ref (d)), some (.int (nI (lo))), some (.int (nI (hi))), none, none, none]) rfl ?_
  refine ce_aload_n dX8_two_0 rfl ?_
  refine ce_iload_n dX8_two_1 rfl ?_
  refine ce_bipush (v := nI (10)) dX8_two_2 (by decide) ?_
  refine ce_idiv (z := nI ((lo) / (10))) dX8_two_4 (nI_ne0 (by omega) (by omega)) (pk_div (by omega) (by omega) (by omega)) ?_
  refine ce_iload_n dX8_two_5 rfl ?_
  refine ce_bipush (v := nI (10)) dX8_two_6 (by decide) ?_
  refine ce_idiv (z := nI ((hi) / (10))) dX8_two_8 (nI_ne0 (by omega) (by omega)) (pk_div (by omega) (by omega) (by omega)) ?_
  refine ce_cVr dX8_two_9 hX8_digit kRX8_132 (m_X8_digitF d len (p) (F) T hD h120 (by omega) hch hT h (nI ((lo) / (10))) (nI ((hi) / (10)))) rfl rfl hD.1 rfl (by decide) (Nat.le_of_ble_eq_true rfl) (fun rcg1 cg1 hcg1 => ?_)
  have ecg1 := hcg1.1
  subst ecg1
  refine ce_istore_n dX8_two_12 (Nat.le_of_ble_eq_true rfl) rfl ?_
  refine ce_iload_n dX8_two_13 rfl ?_
  refine ce_bipush (v := nI (10)) dX8_two_14 (by decide) ?_
  refine ce_iload_n dX8_two_16 rfl ?_
  refine ce_imul (z := nI ((10) * ((lo) / (10)))) dX8_two_17 (pk_mul _ _) ?_
  refine ce_isub (z := nI (lo - ((10) * ((lo) / (10))))) dX8_two_18 (pk_sub (by omega)) ?_
  refine ce_istore dX8_two_19 (Nat.le_of_ble_eq_true rfl) rfl ?_
  refine ce_iload_n dX8_two_21 rfl ?_
  refine ce_bipush (v := nI (10)) dX8_two_22 (by decide) ?_
  refine ce_iload_n dX8_two_24 rfl ?_
  refine ce_imul (z := nI ((10) * ((lo) / (10)))) dX8_two_25 (pk_mul _ _) ?_
  refine ce_isub (z := nI (hi - ((10) * ((lo) / (10))))) dX8_two_26 (pk_sub (by omega)) ?_
  refine ce_istore dX8_two_27 (Nat.le_of_ble_eq_true rfl) rfl ?_
  refine ce_bipush (v := nI (10)) dX8_two_29 (by decide) ?_
  refine ce_iload_n dX8_two_31 rfl ?_
  refine ce_imul (z := nI ((10) * ((lo) / (10)))) dX8_two_32 (pk_mul _ _) ?_
  refine ce_aload_n dX8_two_33 rfl ?_
  refine ce_iload dX8_two_34 rfl ?_
  refine ce_if_geN (tgt := 43) dX8_two_36 (by decide) rfl (by omega) (fun c_36 => ?_) (fun c_36 => ?_)
  · refine ce_iload dX8_two_43 rfl ?_
    refine ce_iload dX8_two_45 rfl ?_
    refine ce_bipush (v := nI (9)) dX8_two_47 (by decide) ?_
    refine ce_icmp_leN (tgt := 57) dX8_two_49 (by decide) rfl rfl (by omega) (by omega) (fun c_49 => ?_) (fun c_49 => ?_)
    · refine ce_iload dX8_two_57 rfl ?_
      refine ce_cVr dX8_two_59 hX8_digit kRX8_132 (m_X8_digitF d len (p + 0) (F) T hD h120 (by omega) hch hT hcg1.2 (nI (lo - ((10) * ((lo) / (10))))) (nI (hi - ((10) * ((lo) / (10)))))) rfl rfl hD.1 rfl (by decide) (Nat.le_of_ble_eq_true rfl) (fun rcg2 cg2 hcg2 => ?_)
      have ecg2 := hcg2.1
      subst ecg2
      refine ce_iadd (z := nI ((10) * ((lo) / (10)) + (lo - ((10) * ((lo) / (10)))))) dX8_two_62 (nI_add _ _) ?_
      refine ce_iret dX8_two_63 rfl rfl (by decide) (by decide) ?_
      exact ⟨_, rfl, rfl, hcg2.2⟩
    · refine ce_bipush (v := nI (9)) dX8_two_52 (by decide) ?_
      refine ce_goto (tgt := 59) dX8_two_54 (by decide) ?_
      refine ce_cVr dX8_two_59 hX8_digit kRX8_132 (m_X8_digitF d len (p + 0) (F) T hD h120 (by omega) hch hT hcg1.2 (nI (lo - ((10) * ((lo) / (10))))) (nI (9))) rfl rfl hD.1 rfl (by decide) (Nat.le_of_ble_eq_true rfl) (fun rcg2 cg2 hcg2 => ?_)
      have ecg2 := hcg2.1
      subst ecg2
      refine ce_iadd (z := nI ((10) * ((lo) / (10)) + (lo - ((10) * ((lo) / (10)))))) dX8_two_62 (nI_add _ _) ?_
      refine ce_iret dX8_two_63 rfl rfl (by decide) (by decide) ?_
      exact ⟨_, rfl, rfl, hcg2.2⟩
  · omega
