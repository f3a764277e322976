set_option maxHeartbeats 2000000 in
set_option maxRecDepth 20000 in
theorem m_X7_save_ok {σ : ce_S} {g : ce_D} (a : Nat) (b : Nat → Nat) (S : ks_S) (hX : ce_LX σ a b) (hr : ce_rX g a b S) (ok : ks_ok S) (s : Nat) (hs : s < 2) : ce_CT (ce_r 5) mX7_save [.ref (a), .int (nI (s))] σ g (ce_rv σ (fun z9 g1 => z9 = nI (ce_sum (sK S 9) 36) ∧ ce_rX g1 a b (ks_save S s) ∧ ce_fr a (a + 411) g g1)) ce_no := by
  refine ce_enter (by decide) rfl (Nat.le_of_ble_eq_true rfl) (L := [some (.ref (a)), some (.int (nI (s)))]) rfl ?_
  refine ce_iload_n dX7_save_0 rfl ?_
  refine ce_cSp dX7_save_1 hX7_isSlot kRX7_258 (m_X7_isSlot (nI (s))) rfl rfl (by decide) (Nat.le_of_ble_eq_true rfl) ?_
  refine ce_if_eqB (tgt := 11) dX7_save_4 (by decide) rfl (fun c_4 => ?_) (fun c_4 => ?_)
  · exact absurd ((ce_in_nI (by omega)).mpr hs) c_4
  · refine ce_iconst (v := nI (0)) dX7_save_7 (by decide) ?_
    refine ce_goto (tgt := 12) dX7_save_8 (by decide) ?_
    refine ce_cSq dX7_save_12 hX7_check kRX7_56 (m_X7_check0) rfl rfl (by decide) (Nat.le_of_ble_eq_true rfl) ?_
    refine ce_aload_n dX7_save_15 rfl ?_
    refine ce_getR dX7_save_16 fRX7_44 hX.1 hX.2.1.2.2.2.2.2.1 ?_
    refine ce_iload_n dX7_save_19 rfl ?_
    refine ce_aald dX7_save_20 (hX.2.2.2.2.2.2.2.1).1 rfl (hX.2.2.2.2.2.2.2.1).2 (by omega) (by decide) (hX.2.2.2.2.2.2.2.2.1 (s) (by omega)) ?_
    refine ce_aload_n dX7_save_21 rfl ?_
    refine ce_getR dX7_save_22 fRX7_10 hX.1 hX.2.1.1 ?_
    refine ce_cVu dX7_save_25 hX0_copyFrom kRX7_75 (m_X0_copyFrom (a + 370 + 20 * s) (a + 1) (sK S) (sO S) (hX.2.2.2.2.2.2.2.2.2.1 (s) (by omega)) hX.2.2.1 hr.1 ok.1.rk (by omega)) rfl rfl (hX.2.2.2.2.2.2.2.2.2.1 (s) (by omega)).1 rfl (by decide) (Nat.le_of_ble_eq_true rfl) (fun cg1 hcg1 => ?_)
    refine ce_aload_n dX7_save_28 rfl ?_
    refine ce_getR dX7_save_29 fRX7_48 hX.1 hX.2.1.2.2.2.2.2.2 ?_
    refine ce_iload_n dX7_save_32 rfl ?_
    refine ce_iconst (v := nI (1)) dX7_save_33 (by decide) ?_
    refine ce_zast dX7_save_34 (hX.2.2.2.2.2.2.2.2.2.2).1 rfl (hX.2.2.2.2.2.2.2.2.2.2).2 (by omega) (by decide) (by first | assumption | decide) ?_
    generalize hcg2 : ce_up cg1 (a + 410) (s) (nI (1)) = cg2
    have xcg2 := rX_save hr hX.2.2.2.1.2.2.2 hs hcg1.1 hcg1.2 hcg2
    refine ce_aload_n dX7_save_35 rfl ?_
    refine ce_getR dX7_save_36 fRX7_10 hX.1 hX.2.1.1 ?_
    refine ce_getR dX7_save_39 fRX7_249 (hX.2.2.1).1 (hX.2.2.1).2.2.1.2.2.1 ?_
    refine ce_cVp dX7_save_42 hX5_ofAll kRX7_252 (n_X5_ofAll (hX.2.2.1).2.2.2.2.1.2.2.1 ((sK S) 9) (fun j hj => (xcg2.1.1).t 9 (by decide) hj)) rfl rfl ((hX.2.2.1).2.2.2.2.1.2.2.1).1 rfl (by decide) (Nat.le_of_ble_eq_true rfl) ?_
    refine ce_iret dX7_save_45 rfl rfl (by decide) (by decide) ?_
    exact ⟨_, rfl, rfl, rfl, xcg2.1, xcg2.2⟩
set_option maxHeartbeats 2000000 in
set_option maxRecDepth 20000 in
theorem m_X7_save_no {σ : ce_S} {g : ce_D} (a : Nat) (b : Nat → Nat) (S : ks_S) (hX : ce_LX σ a b) (hr : ce_rX g a b S) (ok : ks_ok S) (x : Int32) (hx : ¬ ce_in x 2) : ce_CT (ce_rx 2) mX7_save [.ref (a), .int (x)] σ g (fun _ _ _ => False) (kx_X 1 σ g) := by
  refine ce_enter (by decide) rfl (Nat.le_of_ble_eq_true rfl) (L := [some (.ref (a)), some (.int (x))]) rfl ?_
  refine ce_iload_n dX7_save_0 rfl ?_
  refine ce_cSp dX7_save_1 hX7_isSlot kRX7_258 (m_X7_isSlot (x)) rfl rfl (by decide) (Nat.le_of_ble_eq_true rfl) ?_
  refine ce_if_eqB (tgt := 11) dX7_save_4 (by decide) rfl (fun c_4 => ?_) (fun c_4 => ?_)
  · refine ce_iconst (v := nI (1)) dX7_save_11 (by decide) ?_
    exact ce_callSX dX7_save_12 hX7_check kRX7_56 (m_X7_checkX 1 (by decide) (by decide)) rfl rfl (by decide) (by decide) (by decide) (by decide) (fun v σ1 g1 h => h.elim) (fun E σ1 g1 h => ce_xout rfl (by decide) (by decide) h)
  · exact absurd c_4 hx
set_option maxHeartbeats 2000000 in
set_option maxRecDepth 20000 in
theorem m_X7_restoreFault0 {σ : ce_S} {g : ce_D} (a : Nat) (b : Nat → Nat) (S : ks_S) (hX : ce_LX σ a b) (hr : ce_rX g a b S) (ok : ks_ok S) (s : Nat) (hs : s < 2) (hF : sF S s = true) : ce_CT (ce_r 3) mX7_restoreFault [.ref (a), .int (nI (s))] σ g (ce_pv (nI (0)) σ g) ce_no := by
  refine ce_enter (by decide) rfl (Nat.le_of_ble_eq_true rfl) (L := [some (.ref (a)), some (.int (nI (s)))]) rfl ?_
  refine ce_iload_n dX7_restoreFault_0 rfl ?_
  refine ce_cSp dX7_restoreFault_1 hX7_isSlot kRX7_258 (m_X7_isSlot (nI (s))) rfl rfl (by decide) (Nat.le_of_ble_eq_true rfl) ?_
  refine ce_if_neB (tgt := 9) dX7_restoreFault_4 (by decide) rfl (fun c_4 => ?_) (fun c_4 => ?_)
  · refine ce_aload_n dX7_restoreFault_9 rfl ?_
    refine ce_getR dX7_restoreFault_10 fRX7_48 hX.1 hX.2.1.2.2.2.2.2.2 ?_
    refine ce_iload_n dX7_restoreFault_13 rfl ?_
    refine ce_zaldv dX7_restoreFault_14 (hX.2.2.2.2.2.2.2.2.2.2).1 rfl (hX.2.2.2.2.2.2.2.2.2.2).2 (by omega) (by decide) (hr.2.2.1.1 s hs) ?_
    refine ce_if_eqB (tgt := 22) dX7_restoreFault_15 (by decide) rfl (fun c_15 => ?_) (fun c_15 => ?_)
    · exact absurd hF c_15
    · refine ce_iconst (v := nI (0)) dX7_restoreFault_18 (by decide) ?_
      refine ce_goto (tgt := 23) dX7_restoreFault_19 (by decide) ?_
      refine ce_iret dX7_restoreFault_23 rfl rfl (by decide) (by decide) ?_
      exact ⟨rfl, rfl, rfl⟩
  · exact absurd ((ce_in_nI (by omega)).mpr hs) c_4
set_option maxHeartbeats 2000000 in
set_option maxRecDepth 20000 in
theorem m_X7_restoreFault3 {σ : ce_S} {g : ce_D} (a : Nat) (b : Nat → Nat) (S : ks_S) (hX : ce_LX σ a b) (hr : ce_rX g a b S) (ok : ks_ok S) (s : Nat) (hs : s < 2) (hF : ¬ sF S s = true) : ce_CT (ce_r 3) mX7_restoreFault [.ref (a), .int (nI (s))] σ g (ce_pv (nI (3)) σ g) ce_no := by
  refine ce_enter (by decide) rfl (Nat.le_of_ble_eq_true rfl) (L := [some (.ref (a)), some (.int (nI (s)))]) rfl ?_
  refine ce_iload_n dX7_restoreFault_0 rfl ?_
  refine ce_cSp dX7_restoreFault_1 hX7_isSlot kRX7_258 (m_X7_isSlot (nI (s))) rfl rfl (by decide) (Nat.le_of_ble_eq_true rfl) ?_
  refine ce_if_neB (tgt := 9) dX7_restoreFault_4 (by decide) rfl (fun c_4 => ?_) (fun c_4 => ?_)
  · refine ce_aload_n dX7_restoreFault_9 rfl ?_
    refine ce_getR dX7_restoreFault_10 fRX7_48 hX.1 hX.2.1.2.2.2.2.2.2 ?_
    refine ce_iload_n dX7_restoreFault_13 rfl ?_
    refine ce_zaldv dX7_restoreFault_14 (hX.2.2.2.2.2.2.2.2.2.2).1 rfl (hX.2.2.2.2.2.2.2.2.2.2).2 (by omega) (by decide) (hr.2.2.1.1 s hs) ?_
    refine ce_if_eqB (tgt := 22) dX7_restoreFault_15 (by decide) rfl (fun c_15 => ?_) (fun c_15 => ?_)
    · refine ce_iconst (v := nI (3)) dX7_restoreFault_22 (by decide) ?_
      refine ce_iret dX7_restoreFault_23 rfl rfl (by decide) (by decide) ?_
      exact ⟨rfl, rfl, rfl⟩
    · exact absurd c_15 hF
  · exact absurd ((ce_in_nI (by omega)).mpr hs) c_4
set_option maxHeartbeats 2000000 in
set_option maxRecDepth 20000 in
theorem m_X7_restoreFault1 {σ : ce_S} {g : ce_D} (a : Nat) (b : Nat → Nat) (S : ks_S) (hX : ce_LX σ a b) (hr : ce_rX g a b S) (ok : ks_ok S) (x : Int32) (hx : ¬ ce_in x 2) : ce_CT (ce_r 3) mX7_restoreFault [.ref (a), .int (x)] σ g (ce_pv (nI (1)) σ g) ce_no := by
  refine ce_enter (by decide) rfl (Nat.le_of_ble_eq_true rfl) (L := [some (.ref (a)), some (.int (x))]) rfl ?_
  refine ce_iload_n dX7_restoreFault_0 rfl ?_
  refine ce_cSp dX7_restoreFault_1 hX7_isSlot kRX7_258 (m_X7_isSlot (x)) rfl rfl (by decide) (Nat.le_of_ble_eq_true rfl) ?_
  refine ce_if_neB (tgt := 9) dX7_restoreFault_4 (by decide) rfl (fun c_4 => ?_) (fun c_4 => ?_)
  · exact absurd c_4 hx
  · refine ce_iconst (v := nI (1)) dX7_restoreFault_7 (by decide) ?_
    refine ce_iret dX7_restoreFault_8 rfl rfl (by decide) (by decide) ?_
    exact ⟨rfl, rfl, rfl⟩
set_option maxHeartbeats 2000000 in
set_option maxRecDepth 20000 in
theorem m_X7_restore_ok {σ : ce_S} {g : ce_D} (a : Nat) (b : Nat → Nat) (S : ks_S) (hX : ce_LX σ a b) (hr : ce_rX g a b S) (ok : ks_ok S) (s : Nat) (hs : s < 2) (hF : sF S s = true) : ce_CT (ce_r 5) mX7_restore [.ref (a), .int (nI (s))] σ g (ce_rv σ (fun z9 g1 => z9 = nI (ce_sum (sKS S s 9) 36) ∧ ce_rX g1 a b (ks_rest S s) ∧ ce_fr a (a + 411) g g1)) ce_no := by
  refine ce_enter (by decide) rfl (Nat.le_of_ble_eq_true rfl) (L := [some (.ref (a)), some (.int (nI (s)))]) rfl ?_
  refine ce_aload_n dX7_restore_0 rfl ?_
  refine ce_iload_n dX7_restore_1 rfl ?_
  refine ce_cVp dX7_restore_2 hX7_restoreFault kRX7_261 (m_X7_restoreFault0 a b S hX hr ok s hs hF) rfl rfl hX.1 rfl (by decide) (Nat.le_of_ble_eq_true rfl) ?_
  refine ce_cSq dX7_restore_5 hX7_check kRX7_56 (m_X7_check0) rfl rfl (by decide) (Nat.le_of_ble_eq_true rfl) ?_
  refine ce_aload_n dX7_restore_8 rfl ?_
  refine ce_getR dX7_restore_9 fRX7_10 hX.1 hX.2.1.1 ?_
  refine ce_aload_n dX7_restore_12 rfl ?_
  refine ce_getR dX7_restore_13 fRX7_44 hX.1 hX.2.1.2.2.2.2.2.1 ?_
  refine ce_iload_n dX7_restore_16 rfl ?_
  refine ce_aald dX7_restore_17 (hX.2.2.2.2.2.2.2.1).1 rfl (hX.2.2.2.2.2.2.2.1).2 (by omega) (by decide) (hX.2.2.2.2.2.2.2.2.1 (s) (by omega)) ?_
  refine ce_cVu dX7_restore_18 hX0_copyFrom kRX7_75 (m_X0_copyFrom (a + 1) (a + 370 + 20 * s) (sKS S s) (sOS S s) hX.2.2.1 (hX.2.2.2.2.2.2.2.2.2.1 (s) (by omega)) (hr.2.2.1.2 s hs hF) (ok.2.2.1 s hs hF).rk (by omega)) rfl rfl (hX.2.2.1).1 rfl (by decide) (Nat.le_of_ble_eq_true rfl) (fun cg1 hcg1 => ?_)
  refine ce_aload_n dX7_restore_21 rfl ?_
  refine ce_getR dX7_restore_22 fRX7_26 hX.1 hX.2.1.2.2.1 ?_
  refine ce_cVu dX7_restore_25 hX1_forgetAll kRX7_79 (m_X1_forgetAll (a + 63) b hX.2.2.2.1) rfl rfl hX.2.2.2.1.1.1 rfl (by decide) (Nat.le_of_ble_eq_true rfl) (fun cg2 hcg2 => ?_)
  have xcg2 : ce_rC cg2 (a + 1) (sKS S s) (sOS S s) := hcg1.1.kp (fun i hi => by rw [hcg2]; exact ce_up_ne _ _ _ (by omega))
  have ycg2 : ce_rH cg2 (a + 63) b 0 (sKH S) (sOH S) := ⟨by omega, by rw [hcg2]; exact ce_up_at _ _ _ _, fun i hi => by omega⟩
  have zcg2 : ∀ x, x ≠ a + 63 → (x < a + 1 ∨ a + 21 ≤ x) → cg2 x = g x := fun x h1 h2 => by rw [hcg2, ce_up_ne _ _ _ h1]; exact hcg1.2 x (by omega)
  refine ce_aload_n dX7_restore_28 rfl ?_
  refine ce_getR dX7_restore_29 fRX7_10 hX.1 hX.2.1.1 ?_
  refine ce_getR dX7_restore_32 fRX7_249 (hX.2.2.1).1 (hX.2.2.1).2.2.1.2.2.1 ?_
  refine ce_cVp dX7_restore_35 hX5_ofAll kRX7_252 (n_X5_ofAll (hX.2.2.1).2.2.2.2.1.2.2.1 ((sKS S s) 9) (fun j hj => (xcg2).t 9 (by decide) hj)) rfl rfl ((hX.2.2.1).2.2.2.2.1.2.2.1).1 rfl (by decide) (Nat.le_of_ble_eq_true rfl) ?_
  refine ce_iret dX7_restore_38 rfl rfl (by decide) (by decide) ?_
  exact ⟨_, rfl, rfl, rfl, rX_gen hr xcg2 ycg2 (fun x hx => zcg2 x (by omega) (by omega)), fun x hx => zcg2 x (by omega) (by omega)⟩
set_option maxHeartbeats 2000000 in
set_option maxRecDepth 20000 in
theorem m_X7_restore_n1 {σ : ce_S} {g : ce_D} (a : Nat) (b : Nat → Nat) (S : ks_S) (hX : ce_LX σ a b) (hr : ce_rX g a b S) (ok : ks_ok S) (x : Int32) (hx : ¬ ce_in x 2) : ce_CT (ce_rx 2) mX7_restore [.ref (a), .int (x)] σ g (fun _ _ _ => False) (kx_X 1 σ g) := by
  refine ce_enter (by decide) rfl (Nat.le_of_ble_eq_true rfl) (L := [some (.ref (a)), some (.int (x))]) rfl ?_
  refine ce_aload_n dX7_restore_0 rfl ?_
  refine ce_iload_n dX7_restore_1 rfl ?_
  refine ce_cVp dX7_restore_2 hX7_restoreFault kRX7_261 (m_X7_restoreFault1 a b S hX hr ok x hx) rfl rfl hX.1 rfl (by decide) (Nat.le_of_ble_eq_true rfl) ?_
  exact ce_callSX dX7_restore_5 hX7_check kRX7_56 (m_X7_checkX 1 (by decide) (by decide)) rfl rfl (by decide) (by decide) (by decide) (by decide) (fun v σ1 g1 h => h.elim) (fun E σ1 g1 h => ce_xout rfl (by decide) (by decide) h)
set_option maxHeartbeats 2000000 in
set_option maxRecDepth 20000 in
theorem m_X7_restore_n3 {σ : ce_S} {g : ce_D} (a : Nat) (b : Nat → Nat) (S : ks_S) (hX : ce_LX σ a b) (hr : ce_rX g a b S) (ok : ks_ok S) (s : Nat) (hs : s < 2) (hF : ¬ sF S s = true) : ce_CT (ce_rx 2) mX7_restore [.ref (a), .int (nI (s))] σ g (fun _ _ _ => False) (kx_X 3 σ g) := by
  refine ce_enter (by decide) rfl (Nat.le_of_ble_eq_true rfl) (L := [some (.ref (a)), some (.int (nI (s)))]) rfl ?_
  refine ce_aload_n dX7_restore_0 rfl ?_
  refine ce_iload_n dX7_restore_1 rfl ?_
  refine ce_cVp dX7_restore_2 hX7_restoreFault kRX7_261 (m_X7_restoreFault3 a b S hX hr ok s hs hF) rfl rfl hX.1 rfl (by decide) (Nat.le_of_ble_eq_true rfl) ?_
  exact ce_callSX dX7_restore_5 hX7_check kRX7_56 (m_X7_checkX 3 (by decide) (by decide)) rfl rfl (by decide) (by decide) (by decide) (by decide) (fun v σ1 g1 h => h.elim) (fun E σ1 g1 h => ce_xout rfl (by decide) (by decide) h)
