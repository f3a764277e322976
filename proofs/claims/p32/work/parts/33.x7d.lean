set_option maxHeartbeats 2000000 in
set_option maxRecDepth 20000 in
theorem m_X7_undo_ok {σ : ce_S} {g : ce_D} (a : Nat) (b : Nat → Nat) (S : ks_S) (hX : ce_LX σ a b) (hr : ce_rX g a b S) (ok : ks_ok S) (hn : 0 < sn S) : ce_CT (ce_r 5) mX7_undo [.ref (a)] σ g (ce_rv σ (fun z9 g1 => z9 = nI (sn S - 1) ∧ ce_rX g1 a b (ks_undo S) ∧ ce_fr a (a + 411) g g1)) ce_no := by
  have h14 := hr.2.1.1
  refine ce_enter (by decide) rfl (Nat.le_of_ble_eq_true rfl) (L := [some (.ref (a))]) rfl ?_
  refine ce_aload_n dX7_undo_0 rfl ?_
  refine ce_getR dX7_undo_1 fRX7_26 hX.1 hX.2.1.2.2.1 ?_
  refine ce_getIv dX7_undo_4 fRX7_193 hX.2.2.2.1.1.1 hr.2.1.2.1 ?_
  refine ce_if_leN (tgt := 14) dX7_undo_7 (by decide) rfl (by omega) (fun c_7 => ?_) (fun c_7 => ?_)
  · omega
  · refine ce_iconst (v := nI (0)) dX7_undo_10 (by decide) ?_
    refine ce_goto (tgt := 15) dX7_undo_11 (by decide) ?_
    refine ce_cSq dX7_undo_15 hX7_check kRX7_56 (m_X7_check0) rfl rfl (by decide) (Nat.le_of_ble_eq_true rfl) ?_
    refine ce_aload_n dX7_undo_18 rfl ?_
    refine ce_getR dX7_undo_19 fRX7_26 hX.1 hX.2.1.2.2.1 ?_
    refine ce_aload_n dX7_undo_22 rfl ?_
    refine ce_getR dX7_undo_23 fRX7_10 hX.1 hX.2.1.1 ?_
    refine ce_cVr dX7_undo_26 hX1_takeBack kRX7_196 (m_X1_takeBack (a + 63) (a + 1) b (sn S) (sKH S) (sOH S) hX.2.2.2.1 hr.2.1 hX.2.2.1 (fun i hi => (ok.2.1 i hi).rk) hn (by omega)) rfl rfl hX.2.2.2.1.1.1 rfl (by decide) (Nat.le_of_ble_eq_true rfl) (fun rcg1 cg1 hcg1 => ?_)
    refine ce_iret dX7_undo_29 rfl rfl (by decide) (by decide) ?_
    exact ⟨_, rfl, rfl, hcg1.1, rX_gen hr hcg1.2.1 hcg1.2.2.1 (fun x hx => hcg1.2.2.2 x (by omega) (by omega)), fun x hx => hcg1.2.2.2 x (by omega) (by omega)⟩
set_option maxHeartbeats 2000000 in
set_option maxRecDepth 20000 in
theorem m_X7_undo_no {σ : ce_S} {g : ce_D} (a : Nat) (b : Nat → Nat) (S : ks_S) (hX : ce_LX σ a b) (hr : ce_rX g a b S) (ok : ks_ok S) (hn : sn S = 0) : ce_CT (ce_rx 2) mX7_undo [.ref (a)] σ g (fun _ _ _ => False) (kx_X 3 σ g) := by
  have h14 := hr.2.1.1
  refine ce_enter (by decide) rfl (Nat.le_of_ble_eq_true rfl) (L := [some (.ref (a))]) rfl ?_
  refine ce_aload_n dX7_undo_0 rfl ?_
  refine ce_getR dX7_undo_1 fRX7_26 hX.1 hX.2.1.2.2.1 ?_
  refine ce_getIv dX7_undo_4 fRX7_193 hX.2.2.2.1.1.1 hr.2.1.2.1 ?_
  refine ce_if_leN (tgt := 14) dX7_undo_7 (by decide) rfl (by omega) (fun c_7 => ?_) (fun c_7 => ?_)
  · refine ce_iconst (v := nI (3)) dX7_undo_14 (by decide) ?_
    exact ce_callSX dX7_undo_15 hX7_check kRX7_56 (m_X7_checkX 3 (by decide) (by decide)) rfl rfl (by decide) (by decide) (by decide) (by decide) (fun v σ1 g1 h => h.elim) (fun E σ1 g1 h => ce_xout rfl (by decide) (by decide) h)
  · omega
set_option maxHeartbeats 2000000 in
set_option maxRecDepth 20000 in
theorem m_X7_wouldGet_ok {σ : ce_S} {g : ce_D} (a : Nat) (b : Nat → Nat) (S : ks_S) (hX : ce_LX σ a b) (hr : ce_rX g a b S) (ok : ks_ok S) (m w : Nat) (hm : m < sK S 0 0) (hw : w < sK S 0 1) (h5 : sK S 5 w = 0) (hf : kv_allF (sK S) (nI w) = 0) : ce_CT (ce_r 5) mX7_wouldGet [.ref (a), .int (nI (m)), .int (nI (w))] σ g (ce_rv σ (fun z9 g1 => z9 = nI (kv_all (sK S) w 8 (m * 6 + w)) ∧ ce_rX g1 a b S ∧ ce_fr a (a + 411) g g1)) ce_no := by
  have hM := ok.1.me
  have hW := ok.1.wi
  have hst := ok.1.st w
  refine ce_enter (by decide) rfl (Nat.le_of_ble_eq_true rfl) (L := [some (.ref (a)), some (.int (nI (m))), some (.int (nI (w)))]) rfl ?_
  refine ce_aload_n dX7_wouldGet_0 rfl ?_
  refine ce_getR dX7_wouldGet_1 fRX7_10 hX.1 hX.2.1.1 ?_
  refine ce_iload_n dX7_wouldGet_4 rfl ?_
  refine ce_iload_n dX7_wouldGet_5 rfl ?_
  refine ce_cVp dX7_wouldGet_6 hX0_knowsBoth kRX7_119 (m_X0_knowsBoth (a + 1) (sK S) (sO S) hX.2.2.1 hr.1 ok.1 (nI (m)) (nI (w))) rfl rfl (hX.2.2.1).1 rfl (by decide) (Nat.le_of_ble_eq_true rfl) ?_
  refine ce_if_eqB (tgt := 16) dX7_wouldGet_9 (by decide) rfl (fun c_9 => ?_) (fun c_9 => ?_)
  · exact absurd ⟨(ce_in_nI (by omega)).mpr hm, (ce_in_nI (by omega)).mpr hw⟩ c_9
  · refine ce_iconst (v := nI (0)) dX7_wouldGet_12 (by decide) ?_
    refine ce_goto (tgt := 17) dX7_wouldGet_13 (by decide) ?_
    refine ce_cSq dX7_wouldGet_17 hX7_check kRX7_56 (m_X7_check0) rfl rfl (by decide) (Nat.le_of_ble_eq_true rfl) ?_
    refine ce_aload_n dX7_wouldGet_20 rfl ?_
    refine ce_getR dX7_wouldGet_21 fRX7_10 hX.1 hX.2.1.1 ?_
    refine ce_getR dX7_wouldGet_24 fRX7_200 (hX.2.2.1).1 (hX.2.2.1).2.1.2.2.2.2.2.1 ?_
    refine ce_iload_n dX7_wouldGet_27 rfl ?_
    refine ce_ialdv dX7_wouldGet_28 ((hX.2.2.1).2.2.2.1.2.2.2.2.2.1).1 rfl ((hX.2.2.1).2.2.2.1.2.2.2.2.2.1).2 (by omega) (by decide) ((hr.1).r 5 (by decide) (by omega)) ?_
    refine ce_if_eqN (tgt := 35) dX7_wouldGet_29 (by decide) rfl (by omega) (fun c_29 => ?_) (fun c_29 => ?_)
    · refine ce_aload_n dX7_wouldGet_35 rfl ?_
      refine ce_getR dX7_wouldGet_36 fRX7_33 hX.1 hX.2.1.2.2.2.1 ?_
      refine ce_aload_n dX7_wouldGet_39 rfl ?_
      refine ce_getR dX7_wouldGet_40 fRX7_10 hX.1 hX.2.1.1 ?_
      refine ce_cVu dX7_wouldGet_43 hX4_begin kRX7_204 (m_X4_begin (a + 345) (a + 1) (sK S) (sO S) hX.2.2.2.2.1 hX.2.2.1 hr.1 ok.1.rk (by omega)) rfl rfl hX.2.2.2.2.1.1 rfl (by decide) (Nat.le_of_ble_eq_true rfl) (fun cg1 hcg1 => ?_)
      have xcg1 := rX_reh hr hX.2.2.2.1.2.2.2 hcg1.2
      refine ce_aload_n dX7_wouldGet_46 rfl ?_
      refine ce_getR dX7_wouldGet_47 fRX7_33 hX.1 hX.2.1.2.2.2.1 ?_
      refine ce_iload_n dX7_wouldGet_50 rfl ?_
      refine ce_cVr dX7_wouldGet_51 hX4_allocates kRX7_207 (m_X4_allocates (a + 345) (sK S) (sO S) hX.2.2.2.2.1 hcg1.1 ok.1 w (by omega) 0 hf (by decide)) rfl rfl hX.2.2.2.2.1.1 rfl (by decide) (Nat.le_of_ble_eq_true rfl) (fun rcg2 cg2 hcg2 => ?_)
      have ycg2 := (hcg1.2).tr hcg2.2.2
      have xcg2 := rX_reh hr hX.2.2.2.1.2.2.2 ycg2
      refine ce_pop dX7_wouldGet_54 rfl ?_
      refine ce_aload_n dX7_wouldGet_55 rfl ?_
      refine ce_getR dX7_wouldGet_56 fRX7_33 hX.1 hX.2.1.2.2.2.1 ?_
      refine ce_getR dX7_wouldGet_59 fRX7_210 hX.2.2.2.2.1.1 hX.2.2.2.2.1.2.1 ?_
      refine ce_getR dX7_wouldGet_62 fRX7_213 (hX.2.2.2.2.1.2.2).1 (hX.2.2.2.2.1.2.2).2.2.1.2.1 ?_
      refine ce_iload_n dX7_wouldGet_65 rfl ?_
      refine ce_iload_n dX7_wouldGet_66 rfl ?_
      refine ce_cVp dX7_wouldGet_67 hX5_of kRX7_217 (n_X5_of (hX.2.2.2.2.1.2.2).2.2.2.2.1.2.1 (m := m) (w := w) (by omega) (by omega) (nI ((kv_all (sK S) w) 8 (m * 6 + w))) ((hcg2.2.1).t 8 (by decide) (by omega))) rfl rfl ((hX.2.2.2.2.1.2.2).2.2.2.2.1.2.1).1 rfl (by decide) (Nat.le_of_ble_eq_true rfl) ?_
      refine ce_iret dX7_wouldGet_70 rfl rfl (by decide) (by decide) ?_
      exact ⟨_, rfl, rfl, rfl, xcg2, fun x hx => ycg2 x (by omega)⟩
    · omega
set_option maxHeartbeats 2000000 in
set_option maxRecDepth 20000 in
theorem m_X7_wouldGet_ok2 {σ : ce_S} {g : ce_D} (a : Nat) (b : Nat → Nat) (S : ks_S) (hX : ce_LX σ a b) (hr : ce_rX g a b S) (ok : ks_ok S) (m w : Nat) (hm : m < sK S 0 0) (hw : w < sK S 0 1) (h5 : sK S 5 w ≠ 0) : ce_CT (ce_r 5) mX7_wouldGet [.ref (a), .int (nI (m)), .int (nI (w))] σ g (ce_pv (-99999) σ g) ce_no := by
  have hM := ok.1.me
  have hW := ok.1.wi
  have hst := ok.1.st w
  refine ce_enter (by decide) rfl (Nat.le_of_ble_eq_true rfl) (L := [some (.ref (a)), some (.int (nI (m))), some (.int (nI (w)))]) rfl ?_
  refine ce_aload_n dX7_wouldGet_0 rfl ?_
  refine ce_getR dX7_wouldGet_1 fRX7_10 hX.1 hX.2.1.1 ?_
  refine ce_iload_n dX7_wouldGet_4 rfl ?_
  refine ce_iload_n dX7_wouldGet_5 rfl ?_
  refine ce_cVp dX7_wouldGet_6 hX0_knowsBoth kRX7_119 (m_X0_knowsBoth (a + 1) (sK S) (sO S) hX.2.2.1 hr.1 ok.1 (nI (m)) (nI (w))) rfl rfl (hX.2.2.1).1 rfl (by decide) (Nat.le_of_ble_eq_true rfl) ?_
  refine ce_if_eqB (tgt := 16) dX7_wouldGet_9 (by decide) rfl (fun c_9 => ?_) (fun c_9 => ?_)
  · exact absurd ⟨(ce_in_nI (by omega)).mpr hm, (ce_in_nI (by omega)).mpr hw⟩ c_9
  · refine ce_iconst (v := nI (0)) dX7_wouldGet_12 (by decide) ?_
    refine ce_goto (tgt := 17) dX7_wouldGet_13 (by decide) ?_
    refine ce_cSq dX7_wouldGet_17 hX7_check kRX7_56 (m_X7_check0) rfl rfl (by decide) (Nat.le_of_ble_eq_true rfl) ?_
    refine ce_aload_n dX7_wouldGet_20 rfl ?_
    refine ce_getR dX7_wouldGet_21 fRX7_10 hX.1 hX.2.1.1 ?_
    refine ce_getR dX7_wouldGet_24 fRX7_200 (hX.2.2.1).1 (hX.2.2.1).2.1.2.2.2.2.2.1 ?_
    refine ce_iload_n dX7_wouldGet_27 rfl ?_
    refine ce_ialdv dX7_wouldGet_28 ((hX.2.2.1).2.2.2.1.2.2.2.2.2.1).1 rfl ((hX.2.2.1).2.2.2.1.2.2.2.2.2.1).2 (by omega) (by decide) ((hr.1).r 5 (by decide) (by omega)) ?_
    refine ce_if_eqN (tgt := 35) dX7_wouldGet_29 (by decide) rfl (by omega) (fun c_29 => ?_) (fun c_29 => ?_)
    · omega
    · refine ce_ldc dX7_wouldGet_32 kRX7_71 ?_
      refine ce_iret dX7_wouldGet_34 rfl rfl (by decide) (by decide) ?_
      exact ⟨rfl, rfl, rfl⟩
set_option maxHeartbeats 2000000 in
set_option maxRecDepth 20000 in
theorem m_X7_wouldGet_no {σ : ce_S} {g : ce_D} (a : Nat) (b : Nat → Nat) (S : ks_S) (hX : ce_LX σ a b) (hr : ce_rX g a b S) (ok : ks_ok S) (x y : Int32) (hx : ¬ (ce_in x (sK S 0 0) ∧ ce_in y (sK S 0 1))) : ce_CT (ce_rx 2) mX7_wouldGet [.ref (a), .int (x), .int (y)] σ g (fun _ _ _ => False) (kx_X 1 σ g) := by
  refine ce_enter (by decide) rfl (Nat.le_of_ble_eq_true rfl) (L := [some (.ref (a)), some (.int (x)), some (.int (y))]) rfl ?_
  refine ce_aload_n dX7_wouldGet_0 rfl ?_
  refine ce_getR dX7_wouldGet_1 fRX7_10 hX.1 hX.2.1.1 ?_
  refine ce_iload_n dX7_wouldGet_4 rfl ?_
  refine ce_iload_n dX7_wouldGet_5 rfl ?_
  refine ce_cVp dX7_wouldGet_6 hX0_knowsBoth kRX7_119 (m_X0_knowsBoth (a + 1) (sK S) (sO S) hX.2.2.1 hr.1 ok.1 (x) (y)) rfl rfl (hX.2.2.1).1 rfl (by decide) (Nat.le_of_ble_eq_true rfl) ?_
  refine ce_if_eqB (tgt := 16) dX7_wouldGet_9 (by decide) rfl (fun c_9 => ?_) (fun c_9 => ?_)
  · refine ce_iconst (v := nI (1)) dX7_wouldGet_16 (by decide) ?_
    exact ce_callSX dX7_wouldGet_17 hX7_check kRX7_56 (m_X7_checkX 1 (by decide) (by decide)) rfl rfl (by decide) (by decide) (by decide) (by decide) (fun v σ1 g1 h => h.elim) (fun E σ1 g1 h => ce_xout rfl (by decide) (by decide) h)
  · exact absurd c_9 hx
