set_option maxHeartbeats 2000000 in
set_option maxRecDepth 20000 in
theorem m_X7_addMember_ok {σ : ce_S} {g : ce_D} (a : Nat) (b : Nat → Nat) (S : ks_S) (hX : ce_LX σ a b) (hr : ce_rX g a b S) (ok : ks_ok S) (p : Nat) (hf : kv_memF (sK S) (nI (p)) = 0) (hm : sK S 0 0 < 6) : ce_CT (ce_r 5) mX7_addMember [.ref (a), .int (nI (p))] σ g (ce_tv (fun z9 σ1 g1 => z9 = nI (sK S 0 0) ∧ ∃ b1, ce_sm (a + 63 + 1) σ σ1 ∧ ce_LX σ1 a b1 ∧ ce_rX g1 a b1 (ks_act S (kv_enr (sK S) p) (sO S)) ∧ ce_fr a (a + 411) g g1)) ce_no := by
  refine ce_enter (by decide) rfl (Nat.le_of_ble_eq_true rfl) (L := [some (.ref (a)), some (.int (nI (p)))]) rfl ?_
  refine ce_aload_n dX7_addMember_0 rfl ?_
  refine ce_getR dX7_addMember_1 fRX7_10 (hX).1 (hX).2.1.1 ?_
  refine ce_iload_n dX7_addMember_4 rfl ?_
  refine ce_cVp dX7_addMember_5 hX0_memberFault kRX7_126 (hf ▸ (m_X0_memberFault (a + 1) (sK S) (sO S) (hX).2.2.1 hr.1 ok.1 (nI (p)))) rfl rfl ((hX).2.2.1).1 rfl (by decide) (Nat.le_of_ble_eq_true rfl) ?_
  refine ce_cSq dX7_addMember_8 hX7_check kRX7_56 (m_X7_check0) rfl rfl (by decide) (Nat.le_of_ble_eq_true rfl) ?_
  refine ce_aload_n dX7_addMember_11 rfl ?_
  refine ce_getR dX7_addMember_12 fRX7_26 (hX).1 (hX).2.1.2.2.1 ?_
  refine ce_aload_n dX7_addMember_15 rfl ?_
  refine ce_getR dX7_addMember_16 fRX7_10 (hX).1 (hX).2.1.1 ?_
  refine ce_cVs dX7_addMember_19 hX1_remember kRX7_129 (m_X1_remember (a + 63) (a + 1) b (sn S) (sKH S) (sOH S) (sK S) (sO S) (hX).2.2.2.1 hr.2.1 (hX).2.2.1 hr.1 ok.1.rk (by omega)) rfl rfl ((hX).2.2.2.1).1.1 rfl (by decide) (Nat.le_of_ble_eq_true rfl) (fun cs1 cg1 hcg1 => ?_)
  obtain ⟨b1, q1, q2, q3, q4⟩ := hcg1
  have q5 : ce_rC cg1 (a + 1) (sK S) (sO S) := hr.1.fr q4 (by omega)
  have q6 : ce_LX cs1 a b1 := hX.sm q1 q2
  refine ce_aload_n dX7_addMember_22 rfl ?_
  refine ce_getR dX7_addMember_23 fRX7_10 (q6).1 (q6).2.1.1 ?_
  refine ce_iload_n dX7_addMember_26 rfl ?_
  refine ce_cVr dX7_addMember_27 hX0_enrol kRX7_132 (m_X0_enrol (a + 1) (sK S) (sO S) (q6).2.2.1 q5 ok.1 (p) hm) rfl rfl ((q6).2.2.1).1 rfl (by decide) (Nat.le_of_ble_eq_true rfl) (fun rcg2 cg2 hcg2 => ?_)
  have q7 := rX_act hr q3 q4 hcg2.2.1 hcg2.2.2 q2.2.2.2
  refine ce_iret dX7_addMember_30 rfl rfl (by decide) (by decide) ?_
  exact ⟨_, rfl, hcg2.1, b1, q1, q6, q7.1, q7.2⟩
set_option maxHeartbeats 2000000 in
set_option maxRecDepth 20000 in
theorem m_X7_addMember_no {σ : ce_S} {g : ce_D} (a : Nat) (b : Nat → Nat) (S : ks_S) (hX : ce_LX σ a b) (hr : ce_rX g a b S) (ok : ks_ok S) (p : Int32) (f : Nat) (hf : kv_memF (sK S) p = f) (h0 : f ≠ 0) (h3 : f ≤ 3) : ce_CT (ce_rx 2) mX7_addMember [.ref (a), .int (p)] σ g (fun _ _ _ => False) (kx_X f σ g) := by
  refine ce_enter (by decide) rfl (Nat.le_of_ble_eq_true rfl) (L := [some (.ref (a)), some (.int (p))]) rfl ?_
  refine ce_aload_n dX7_addMember_0 rfl ?_
  refine ce_getR dX7_addMember_1 fRX7_10 (hX).1 (hX).2.1.1 ?_
  refine ce_iload_n dX7_addMember_4 rfl ?_
  refine ce_cVp dX7_addMember_5 hX0_memberFault kRX7_126 (hf ▸ (m_X0_memberFault (a + 1) (sK S) (sO S) (hX).2.2.1 hr.1 ok.1 p)) rfl rfl ((hX).2.2.1).1 rfl (by decide) (Nat.le_of_ble_eq_true rfl) ?_
  exact ce_callSX dX7_addMember_8 hX7_check kRX7_56 (m_X7_checkX f h0 h3) rfl rfl (by decide) (by decide) (by decide) (by decide) (fun v σ1 g1 h => h.elim) (fun E σ1 g1 h => ce_xout rfl (by decide) (by decide) h)
set_option maxHeartbeats 2000000 in
set_option maxRecDepth 20000 in
theorem m_X7_addWine_ok {σ : ce_S} {g : ce_D} (a : Nat) (b : Nat → Nat) (S : ks_S) (hX : ce_LX σ a b) (hr : ce_rX g a b S) (ok : ks_ok S) (p n : Nat) (hf : kv_winF (sK S) (nI (p)) (nI (n)) = 0) (hm : sK S 0 1 < 6) : ce_CT (ce_r 5) mX7_addWine [.ref (a), .int (nI (p)), .int (nI (n))] σ g (ce_tv (fun z9 σ1 g1 => z9 = nI (sK S 0 1) ∧ ∃ b1, ce_sm (a + 63 + 1) σ σ1 ∧ ce_LX σ1 a b1 ∧ ce_rX g1 a b1 (ks_act S (kv_off (sK S) p n) (sO S)) ∧ ce_fr a (a + 411) g g1)) ce_no := by
  refine ce_enter (by decide) rfl (Nat.le_of_ble_eq_true rfl) (L := [some (.ref (a)), some (.int (nI (p))), some (.int (nI (n)))]) rfl ?_
  refine ce_aload_n dX7_addWine_0 rfl ?_
  refine ce_getR dX7_addWine_1 fRX7_10 (hX).1 (hX).2.1.1 ?_
  refine ce_iload_n dX7_addWine_4 rfl ?_
  refine ce_iload_n dX7_addWine_5 rfl ?_
  refine ce_cVp dX7_addWine_6 hX0_wineFault kRX7_135 (hf ▸ (m_X0_wineFault (a + 1) (sK S) (sO S) (hX).2.2.1 hr.1 ok.1 (nI (p)) (nI (n)))) rfl rfl ((hX).2.2.1).1 rfl (by decide) (Nat.le_of_ble_eq_true rfl) ?_
  refine ce_cSq dX7_addWine_9 hX7_check kRX7_56 (m_X7_check0) rfl rfl (by decide) (Nat.le_of_ble_eq_true rfl) ?_
  refine ce_aload_n dX7_addWine_12 rfl ?_
  refine ce_getR dX7_addWine_13 fRX7_26 (hX).1 (hX).2.1.2.2.1 ?_
  refine ce_aload_n dX7_addWine_16 rfl ?_
  refine ce_getR dX7_addWine_17 fRX7_10 (hX).1 (hX).2.1.1 ?_
  refine ce_cVs dX7_addWine_20 hX1_remember kRX7_129 (m_X1_remember (a + 63) (a + 1) b (sn S) (sKH S) (sOH S) (sK S) (sO S) (hX).2.2.2.1 hr.2.1 (hX).2.2.1 hr.1 ok.1.rk (by omega)) rfl rfl ((hX).2.2.2.1).1.1 rfl (by decide) (Nat.le_of_ble_eq_true rfl) (fun cs1 cg1 hcg1 => ?_)
  obtain ⟨b1, q1, q2, q3, q4⟩ := hcg1
  have q5 : ce_rC cg1 (a + 1) (sK S) (sO S) := hr.1.fr q4 (by omega)
  have q6 : ce_LX cs1 a b1 := hX.sm q1 q2
  refine ce_aload_n dX7_addWine_23 rfl ?_
  refine ce_getR dX7_addWine_24 fRX7_10 (q6).1 (q6).2.1.1 ?_
  refine ce_iload_n dX7_addWine_27 rfl ?_
  refine ce_iload_n dX7_addWine_28 rfl ?_
  refine ce_cVr dX7_addWine_29 hX0_offer kRX7_138 (m_X0_offer (a + 1) (sK S) (sO S) (q6).2.2.1 q5 ok.1 (p) (n) hm) rfl rfl ((q6).2.2.1).1 rfl (by decide) (Nat.le_of_ble_eq_true rfl) (fun rcg2 cg2 hcg2 => ?_)
  have q7 := rX_act hr q3 q4 hcg2.2.1 hcg2.2.2 q2.2.2.2
  refine ce_iret dX7_addWine_32 rfl rfl (by decide) (by decide) ?_
  exact ⟨_, rfl, hcg2.1, b1, q1, q6, q7.1, q7.2⟩
set_option maxHeartbeats 2000000 in
set_option maxRecDepth 20000 in
theorem m_X7_addWine_no {σ : ce_S} {g : ce_D} (a : Nat) (b : Nat → Nat) (S : ks_S) (hX : ce_LX σ a b) (hr : ce_rX g a b S) (ok : ks_ok S) (p n : Int32) (f : Nat) (hf : kv_winF (sK S) p n = f) (h0 : f ≠ 0) (h3 : f ≤ 3) : ce_CT (ce_rx 2) mX7_addWine [.ref (a), .int (p), .int (n)] σ g (fun _ _ _ => False) (kx_X f σ g) := by
  refine ce_enter (by decide) rfl (Nat.le_of_ble_eq_true rfl) (L := [some (.ref (a)), some (.int (p)), some (.int (n))]) rfl ?_
  refine ce_aload_n dX7_addWine_0 rfl ?_
  refine ce_getR dX7_addWine_1 fRX7_10 (hX).1 (hX).2.1.1 ?_
  refine ce_iload_n dX7_addWine_4 rfl ?_
  refine ce_iload_n dX7_addWine_5 rfl ?_
  refine ce_cVp dX7_addWine_6 hX0_wineFault kRX7_135 (hf ▸ (m_X0_wineFault (a + 1) (sK S) (sO S) (hX).2.2.1 hr.1 ok.1 p n)) rfl rfl ((hX).2.2.1).1 rfl (by decide) (Nat.le_of_ble_eq_true rfl) ?_
  exact ce_callSX dX7_addWine_9 hX7_check kRX7_56 (m_X7_checkX f h0 h3) rfl rfl (by decide) (by decide) (by decide) (by decide) (fun v σ1 g1 h => h.elim) (fun E σ1 g1 h => ce_xout rfl (by decide) (by decide) h)
set_option maxHeartbeats 2000000 in
set_option maxRecDepth 20000 in
theorem m_X7_addBin_ok {σ : ce_S} {g : ce_D} (a : Nat) (b : Nat → Nat) (S : ks_S) (hX : ce_LX σ a b) (hr : ce_rX g a b S) (ok : ks_ok S) (n : Nat) (hf : kv_binF (sK S) (nI (n)) = 0) (hm : sK S 0 2 < 8) : ce_CT (ce_r 5) mX7_addBin [.ref (a), .int (nI (n))] σ g (ce_tv (fun z9 σ1 g1 => z9 = nI (sK S 0 2) ∧ ∃ b1, ce_sm (a + 63 + 1) σ σ1 ∧ ce_LX σ1 a b1 ∧ ce_rX g1 a b1 (ks_act S (kv_inst (sK S) n) (sO S)) ∧ ce_fr a (a + 411) g g1)) ce_no := by
  refine ce_enter (by decide) rfl (Nat.le_of_ble_eq_true rfl) (L := [some (.ref (a)), some (.int (nI (n)))]) rfl ?_
  refine ce_aload_n dX7_addBin_0 rfl ?_
  refine ce_getR dX7_addBin_1 fRX7_10 (hX).1 (hX).2.1.1 ?_
  refine ce_getR dX7_addBin_4 fRX7_107 ((hX).2.2.1).1 ((hX).2.2.1).2.2.1.2.2.2.2 ?_
  refine ce_iload_n dX7_addBin_7 rfl ?_
  refine ce_cVp dX7_addBin_8 hX3_binFault kRX7_141 (hf ▸ (m_X3_binFault (a + 1 + 16) (sK S) ((hX).2.2.1).2.2.2.2.2 hr.1.k ok.1.rk (nI (n)))) rfl rfl ((hX).2.2.1).2.2.2.2.2.1 rfl (by decide) (Nat.le_of_ble_eq_true rfl) ?_
  refine ce_cSq dX7_addBin_11 hX7_check kRX7_56 (m_X7_check0) rfl rfl (by decide) (Nat.le_of_ble_eq_true rfl) ?_
  refine ce_aload_n dX7_addBin_14 rfl ?_
  refine ce_getR dX7_addBin_15 fRX7_26 (hX).1 (hX).2.1.2.2.1 ?_
  refine ce_aload_n dX7_addBin_18 rfl ?_
  refine ce_getR dX7_addBin_19 fRX7_10 (hX).1 (hX).2.1.1 ?_
  refine ce_cVs dX7_addBin_22 hX1_remember kRX7_129 (m_X1_remember (a + 63) (a + 1) b (sn S) (sKH S) (sOH S) (sK S) (sO S) (hX).2.2.2.1 hr.2.1 (hX).2.2.1 hr.1 ok.1.rk (by omega)) rfl rfl ((hX).2.2.2.1).1.1 rfl (by decide) (Nat.le_of_ble_eq_true rfl) (fun cs1 cg1 hcg1 => ?_)
  obtain ⟨b1, q1, q2, q3, q4⟩ := hcg1
  have q5 : ce_rC cg1 (a + 1) (sK S) (sO S) := hr.1.fr q4 (by omega)
  have q6 : ce_LX cs1 a b1 := hX.sm q1 q2
  refine ce_aload_n dX7_addBin_25 rfl ?_
  refine ce_getR dX7_addBin_26 fRX7_10 (q6).1 (q6).2.1.1 ?_
  refine ce_getR dX7_addBin_29 fRX7_107 ((q6).2.2.1).1 ((q6).2.2.1).2.2.1.2.2.2.2 ?_
  refine ce_iload_n dX7_addBin_32 rfl ?_
  refine ce_cVr dX7_addBin_33 hX3_install kRX7_144 (m_X3_install (a + 1 + 16) (sK S) ((q6).2.2.1).2.2.2.2.2 q5.k ok.1.rk (n) hm) rfl rfl ((q6).2.2.1).2.2.2.2.2.1 rfl (by decide) (Nat.le_of_ble_eq_true rfl) (fun rcg2 cg2 hcg2 => ?_)
  have q7 := rX_act hr q3 q4 (q5.rk hcg2.2.1 hcg2.2.2 kv_eq_inst) (hcg2.2.2.wk ⟨by omega, by omega⟩) q2.2.2.2
  refine ce_iret dX7_addBin_36 rfl rfl (by decide) (by decide) ?_
  exact ⟨_, rfl, hcg2.1, b1, q1, q6, q7.1, q7.2⟩
set_option maxHeartbeats 2000000 in
set_option maxRecDepth 20000 in
theorem m_X7_addBin_no {σ : ce_S} {g : ce_D} (a : Nat) (b : Nat → Nat) (S : ks_S) (hX : ce_LX σ a b) (hr : ce_rX g a b S) (ok : ks_ok S) (n : Int32) (f : Nat) (hf : kv_binF (sK S) n = f) (h0 : f ≠ 0) (h3 : f ≤ 3) : ce_CT (ce_rx 2) mX7_addBin [.ref (a), .int (n)] σ g (fun _ _ _ => False) (kx_X f σ g) := by
  refine ce_enter (by decide) rfl (Nat.le_of_ble_eq_true rfl) (L := [some (.ref (a)), some (.int (n))]) rfl ?_
  refine ce_aload_n dX7_addBin_0 rfl ?_
  refine ce_getR dX7_addBin_1 fRX7_10 (hX).1 (hX).2.1.1 ?_
  refine ce_getR dX7_addBin_4 fRX7_107 ((hX).2.2.1).1 ((hX).2.2.1).2.2.1.2.2.2.2 ?_
  refine ce_iload_n dX7_addBin_7 rfl ?_
  refine ce_cVp dX7_addBin_8 hX3_binFault kRX7_141 (hf ▸ (m_X3_binFault (a + 1 + 16) (sK S) ((hX).2.2.1).2.2.2.2.2 hr.1.k ok.1.rk n)) rfl rfl ((hX).2.2.1).2.2.2.2.2.1 rfl (by decide) (Nat.le_of_ble_eq_true rfl) ?_
  exact ce_callSX dX7_addBin_11 hX7_check kRX7_56 (m_X7_checkX f h0 h3) rfl rfl (by decide) (by decide) (by decide) (by decide) (fun v σ1 g1 h => h.elim) (fun E σ1 g1 h => ce_xout rfl (by decide) (by decide) h)
set_option maxHeartbeats 2000000 in
set_option maxRecDepth 20000 in
theorem m_X7_order_ok {σ : ce_S} {g : ce_D} (a : Nat) (b : Nat → Nat) (S : ks_S) (hX : ce_LX σ a b) (hr : ce_rX g a b S) (ok : ks_ok S) (m w n : Nat) (hf : kv_ordF (sK S) (nI (m)) (nI (w)) (nI (n)) = 0) (hm : m < 6) (hw : w < 6) : ce_CT (ce_r 5) mX7_order [.ref (a), .int (nI (m)), .int (nI (w)), .int (nI (n))] σ g (ce_tv (fun z9 σ1 g1 => z9 = nI (sK S 7 (m * 6 + w)) ∧ ∃ b1, ce_sm (a + 63 + 1) σ σ1 ∧ ce_LX σ1 a b1 ∧ ce_rX g1 a b1 (ks_act S (kv_ord (sK S) m w n) (sO S)) ∧ ce_fr a (a + 411) g g1)) ce_no := by
  refine ce_enter (by decide) rfl (Nat.le_of_ble_eq_true rfl) (L := [some (.ref (a)), some (.int (nI (m))), some (.int (nI (w))), some (.int (nI (n)))]) rfl ?_
  refine ce_aload_n dX7_order_0 rfl ?_
  refine ce_getR dX7_order_1 fRX7_10 (hX).1 (hX).2.1.1 ?_
  refine ce_iload_n dX7_order_4 rfl ?_
  refine ce_iload_n dX7_order_5 rfl ?_
  refine ce_iload_n dX7_order_6 rfl ?_
  refine ce_cVp dX7_order_7 hX0_orderFault kRX7_147 (hf ▸ (m_X0_orderFault (a + 1) (sK S) (sO S) (hX).2.2.1 hr.1 ok.1 (nI (m)) (nI (w)) (nI (n)))) rfl rfl ((hX).2.2.1).1 rfl (by decide) (Nat.le_of_ble_eq_true rfl) ?_
  refine ce_cSq dX7_order_10 hX7_check kRX7_56 (m_X7_check0) rfl rfl (by decide) (Nat.le_of_ble_eq_true rfl) ?_
  refine ce_aload_n dX7_order_13 rfl ?_
  refine ce_getR dX7_order_14 fRX7_26 (hX).1 (hX).2.1.2.2.1 ?_
  refine ce_aload_n dX7_order_17 rfl ?_
  refine ce_getR dX7_order_18 fRX7_10 (hX).1 (hX).2.1.1 ?_
  refine ce_cVs dX7_order_21 hX1_remember kRX7_129 (m_X1_remember (a + 63) (a + 1) b (sn S) (sKH S) (sOH S) (sK S) (sO S) (hX).2.2.2.1 hr.2.1 (hX).2.2.1 hr.1 ok.1.rk (by omega)) rfl rfl ((hX).2.2.2.1).1.1 rfl (by decide) (Nat.le_of_ble_eq_true rfl) (fun cs1 cg1 hcg1 => ?_)
  obtain ⟨b1, q1, q2, q3, q4⟩ := hcg1
  have q5 : ce_rC cg1 (a + 1) (sK S) (sO S) := hr.1.fr q4 (by omega)
  have q6 : ce_LX cs1 a b1 := hX.sm q1 q2
  refine ce_aload_n dX7_order_24 rfl ?_
  refine ce_getR dX7_order_25 fRX7_10 (q6).1 (q6).2.1.1 ?_
  refine ce_iload_n dX7_order_28 rfl ?_
  refine ce_iload_n dX7_order_29 rfl ?_
  refine ce_iload_n dX7_order_30 rfl ?_
  refine ce_cVr dX7_order_31 hX0_changeOrder kRX7_150 (m_X0_changeOrder (a + 1) (sK S) (sO S) (q6).2.2.1 q5 ok.1 (m) (w) (n) hm hw) rfl rfl ((q6).2.2.1).1 rfl (by decide) (Nat.le_of_ble_eq_true rfl) (fun rcg2 cg2 hcg2 => ?_)
  have q7 := rX_act hr q3 q4 hcg2.2.1 hcg2.2.2 q2.2.2.2
  refine ce_iret dX7_order_34 rfl rfl (by decide) (by decide) ?_
  exact ⟨_, rfl, hcg2.1, b1, q1, q6, q7.1, q7.2⟩
set_option maxHeartbeats 2000000 in
set_option maxRecDepth 20000 in
theorem m_X7_order_no {σ : ce_S} {g : ce_D} (a : Nat) (b : Nat → Nat) (S : ks_S) (hX : ce_LX σ a b) (hr : ce_rX g a b S) (ok : ks_ok S) (m w n : Int32) (f : Nat) (hf : kv_ordF (sK S) m w n = f) (h0 : f ≠ 0) (h3 : f ≤ 3) : ce_CT (ce_rx 2) mX7_order [.ref (a), .int (m), .int (w), .int (n)] σ g (fun _ _ _ => False) (kx_X f σ g) := by
  refine ce_enter (by decide) rfl (Nat.le_of_ble_eq_true rfl) (L := [some (.ref (a)), some (.int (m)), some (.int (w)), some (.int (n))]) rfl ?_
  refine ce_aload_n dX7_order_0 rfl ?_
  refine ce_getR dX7_order_1 fRX7_10 (hX).1 (hX).2.1.1 ?_
  refine ce_iload_n dX7_order_4 rfl ?_
  refine ce_iload_n dX7_order_5 rfl ?_
  refine ce_iload_n dX7_order_6 rfl ?_
  refine ce_cVp dX7_order_7 hX0_orderFault kRX7_147 (hf ▸ (m_X0_orderFault (a + 1) (sK S) (sO S) (hX).2.2.1 hr.1 ok.1 m w n)) rfl rfl ((hX).2.2.1).1 rfl (by decide) (Nat.le_of_ble_eq_true rfl) ?_
  exact ce_callSX dX7_order_10 hX7_check kRX7_56 (m_X7_checkX f h0 h3) rfl rfl (by decide) (by decide) (by decide) (by decide) (fun v σ1 g1 h => h.elim) (fun E σ1 g1 h => ce_xout rfl (by decide) (by decide) h)
set_option maxHeartbeats 2000000 in
set_option maxRecDepth 20000 in
theorem m_X7_allocate_ok {σ : ce_S} {g : ce_D} (a : Nat) (b : Nat → Nat) (S : ks_S) (hX : ce_LX σ a b) (hr : ce_rX g a b S) (ok : ks_ok S) (w : Nat) (hf : kv_allF (sK S) (nI (w)) = 0) (hw : w < 6) : ce_CT (ce_r 5) mX7_allocate [.ref (a), .int (nI (w))] σ g (ce_tv (fun z9 σ1 g1 => z9 = nI (kv_sum (kv_share w 60 (sK S)) 8 w) ∧ ∃ b1, ce_sm (a + 63 + 1) σ σ1 ∧ ce_LX σ1 a b1 ∧ ce_rX g1 a b1 (ks_act S (kv_all (sK S) w) (ko_all (sK S) w (sO S))) ∧ ce_fr a (a + 411) g g1)) ce_no := by
  refine ce_enter (by decide) rfl (Nat.le_of_ble_eq_true rfl) (L := [some (.ref (a)), some (.int (nI (w)))]) rfl ?_
  refine ce_aload_n dX7_allocate_0 rfl ?_
  refine ce_getR dX7_allocate_1 fRX7_10 (hX).1 (hX).2.1.1 ?_
  refine ce_iload_n dX7_allocate_4 rfl ?_
  refine ce_cVp dX7_allocate_5 hX0_allocationFault kRX7_153 (hf ▸ (m_X0_allocationFault (a + 1) (sK S) (sO S) (hX).2.2.1 hr.1 ok.1 (nI (w)))) rfl rfl ((hX).2.2.1).1 rfl (by decide) (Nat.le_of_ble_eq_true rfl) ?_
  refine ce_cSq dX7_allocate_8 hX7_check kRX7_56 (m_X7_check0) rfl rfl (by decide) (Nat.le_of_ble_eq_true rfl) ?_
  refine ce_aload_n dX7_allocate_11 rfl ?_
  refine ce_getR dX7_allocate_12 fRX7_26 (hX).1 (hX).2.1.2.2.1 ?_
  refine ce_aload_n dX7_allocate_15 rfl ?_
  refine ce_getR dX7_allocate_16 fRX7_10 (hX).1 (hX).2.1.1 ?_
  refine ce_cVs dX7_allocate_19 hX1_remember kRX7_129 (m_X1_remember (a + 63) (a + 1) b (sn S) (sKH S) (sOH S) (sK S) (sO S) (hX).2.2.2.1 hr.2.1 (hX).2.2.1 hr.1 ok.1.rk (by omega)) rfl rfl ((hX).2.2.2.1).1.1 rfl (by decide) (Nat.le_of_ble_eq_true rfl) (fun cs1 cg1 hcg1 => ?_)
  obtain ⟨b1, q1, q2, q3, q4⟩ := hcg1
  have q5 : ce_rC cg1 (a + 1) (sK S) (sO S) := hr.1.fr q4 (by omega)
  have q6 : ce_LX cs1 a b1 := hX.sm q1 q2
  refine ce_aload_n dX7_allocate_22 rfl ?_
  refine ce_getR dX7_allocate_23 fRX7_10 (q6).1 (q6).2.1.1 ?_
  refine ce_iload_n dX7_allocate_26 rfl ?_
  refine ce_cVr dX7_allocate_27 hX0_shareOut kRX7_156 (m_X0_shareOut (a + 1) (sK S) (sO S) (q6).2.2.1 q5 ok.1 (w) hw) rfl rfl ((q6).2.2.1).1 rfl (by decide) (Nat.le_of_ble_eq_true rfl) (fun rcg2 cg2 hcg2 => ?_)
  have q7 := rX_act hr q3 q4 hcg2.2.1 hcg2.2.2 q2.2.2.2
  refine ce_iret dX7_allocate_30 rfl rfl (by decide) (by decide) ?_
  exact ⟨_, rfl, hcg2.1, b1, q1, q6, q7.1, q7.2⟩
set_option maxHeartbeats 2000000 in
set_option maxRecDepth 20000 in
theorem m_X7_allocate_no {σ : ce_S} {g : ce_D} (a : Nat) (b : Nat → Nat) (S : ks_S) (hX : ce_LX σ a b) (hr : ce_rX g a b S) (ok : ks_ok S) (w : Int32) (f : Nat) (hf : kv_allF (sK S) w = f) (h0 : f ≠ 0) (h3 : f ≤ 3) : ce_CT (ce_rx 2) mX7_allocate [.ref (a), .int (w)] σ g (fun _ _ _ => False) (kx_X f σ g) := by
  refine ce_enter (by decide) rfl (Nat.le_of_ble_eq_true rfl) (L := [some (.ref (a)), some (.int (w))]) rfl ?_
  refine ce_aload_n dX7_allocate_0 rfl ?_
  refine ce_getR dX7_allocate_1 fRX7_10 (hX).1 (hX).2.1.1 ?_
  refine ce_iload_n dX7_allocate_4 rfl ?_
  refine ce_cVp dX7_allocate_5 hX0_allocationFault kRX7_153 (hf ▸ (m_X0_allocationFault (a + 1) (sK S) (sO S) (hX).2.2.1 hr.1 ok.1 w)) rfl rfl ((hX).2.2.1).1 rfl (by decide) (Nat.le_of_ble_eq_true rfl) ?_
  exact ce_callSX dX7_allocate_8 hX7_check kRX7_56 (m_X7_checkX f h0 h3) rfl rfl (by decide) (by decide) (by decide) (by decide) (fun v σ1 g1 h => h.elim) (fun E σ1 g1 h => ce_xout rfl (by decide) (by decide) h)
set_option maxHeartbeats 2000000 in
set_option maxRecDepth 20000 in
theorem m_X7_deliver_ok {σ : ce_S} {g : ce_D} (a : Nat) (b : Nat → Nat) (S : ks_S) (hX : ce_LX σ a b) (hr : ce_rX g a b S) (ok : ks_ok S) (w : Nat) (hf : kv_delF (sK S) (nI (w)) = 0) (hw : w < 6) : ce_CT (ce_r 5) mX7_deliver [.ref (a), .int (nI (w))] σ g (ce_tv (fun z9 σ1 g1 => z9 = nI (kv_sum (sK S) 8 w) ∧ ∃ b1, ce_sm (a + 63 + 1) σ σ1 ∧ ce_LX σ1 a b1 ∧ ce_rX g1 a b1 (ks_act S (kv_bri (sK S) w) (ko_bri (sK S) w (sO S))) ∧ ce_fr a (a + 411) g g1)) ce_no := by
  refine ce_enter (by decide) rfl (Nat.le_of_ble_eq_true rfl) (L := [some (.ref (a)), some (.int (nI (w)))]) rfl ?_
  refine ce_aload_n dX7_deliver_0 rfl ?_
  refine ce_getR dX7_deliver_1 fRX7_10 (hX).1 (hX).2.1.1 ?_
  refine ce_iload_n dX7_deliver_4 rfl ?_
  refine ce_cVp dX7_deliver_5 hX0_deliveryFault kRX7_159 (hf ▸ (m_X0_deliveryFault (a + 1) (sK S) (sO S) (hX).2.2.1 hr.1 ok.1 (nI (w)))) rfl rfl ((hX).2.2.1).1 rfl (by decide) (Nat.le_of_ble_eq_true rfl) ?_
  refine ce_cSq dX7_deliver_8 hX7_check kRX7_56 (m_X7_check0) rfl rfl (by decide) (Nat.le_of_ble_eq_true rfl) ?_
  refine ce_aload_n dX7_deliver_11 rfl ?_
  refine ce_getR dX7_deliver_12 fRX7_26 (hX).1 (hX).2.1.2.2.1 ?_
  refine ce_aload_n dX7_deliver_15 rfl ?_
  refine ce_getR dX7_deliver_16 fRX7_10 (hX).1 (hX).2.1.1 ?_
  refine ce_cVs dX7_deliver_19 hX1_remember kRX7_129 (m_X1_remember (a + 63) (a + 1) b (sn S) (sKH S) (sOH S) (sK S) (sO S) (hX).2.2.2.1 hr.2.1 (hX).2.2.1 hr.1 ok.1.rk (by omega)) rfl rfl ((hX).2.2.2.1).1.1 rfl (by decide) (Nat.le_of_ble_eq_true rfl) (fun cs1 cg1 hcg1 => ?_)
  obtain ⟨b1, q1, q2, q3, q4⟩ := hcg1
  have q5 : ce_rC cg1 (a + 1) (sK S) (sO S) := hr.1.fr q4 (by omega)
  have q6 : ce_LX cs1 a b1 := hX.sm q1 q2
  refine ce_aload_n dX7_deliver_22 rfl ?_
  refine ce_getR dX7_deliver_23 fRX7_10 (q6).1 (q6).2.1.1 ?_
  refine ce_iload_n dX7_deliver_26 rfl ?_
  refine ce_cVr dX7_deliver_27 hX0_bringIn kRX7_162 (m_X0_bringIn (a + 1) (sK S) (sO S) (q6).2.2.1 q5 ok.1 (w) hw) rfl rfl ((q6).2.2.1).1 rfl (by decide) (Nat.le_of_ble_eq_true rfl) (fun rcg2 cg2 hcg2 => ?_)
  have q7 := rX_act hr q3 q4 hcg2.2.1 hcg2.2.2 q2.2.2.2
  refine ce_iret dX7_deliver_30 rfl rfl (by decide) (by decide) ?_
  exact ⟨_, rfl, hcg2.1, b1, q1, q6, q7.1, q7.2⟩
set_option maxHeartbeats 2000000 in
set_option maxRecDepth 20000 in
theorem m_X7_deliver_no {σ : ce_S} {g : ce_D} (a : Nat) (b : Nat → Nat) (S : ks_S) (hX : ce_LX σ a b) (hr : ce_rX g a b S) (ok : ks_ok S) (w : Int32) (f : Nat) (hf : kv_delF (sK S) w = f) (h0 : f ≠ 0) (h3 : f ≤ 3) : ce_CT (ce_rx 2) mX7_deliver [.ref (a), .int (w)] σ g (fun _ _ _ => False) (kx_X f σ g) := by
  refine ce_enter (by decide) rfl (Nat.le_of_ble_eq_true rfl) (L := [some (.ref (a)), some (.int (w))]) rfl ?_
  refine ce_aload_n dX7_deliver_0 rfl ?_
  refine ce_getR dX7_deliver_1 fRX7_10 (hX).1 (hX).2.1.1 ?_
  refine ce_iload_n dX7_deliver_4 rfl ?_
  refine ce_cVp dX7_deliver_5 hX0_deliveryFault kRX7_159 (hf ▸ (m_X0_deliveryFault (a + 1) (sK S) (sO S) (hX).2.2.1 hr.1 ok.1 w)) rfl rfl ((hX).2.2.1).1 rfl (by decide) (Nat.le_of_ble_eq_true rfl) ?_
  exact ce_callSX dX7_deliver_8 hX7_check kRX7_56 (m_X7_checkX f h0 h3) rfl rfl (by decide) (by decide) (by decide) (by decide) (fun v σ1 g1 h => h.elim) (fun E σ1 g1 h => ce_xout rfl (by decide) (by decide) h)
set_option maxHeartbeats 2000000 in
set_option maxRecDepth 20000 in
theorem m_X7_drink_ok {σ : ce_S} {g : ce_D} (a : Nat) (b : Nat → Nat) (S : ks_S) (hX : ce_LX σ a b) (hr : ce_rX g a b S) (ok : ks_ok S) (m w n : Nat) (hf : kv_driF (sK S) (nI (m)) (nI (w)) (nI (n)) = 0) (hm : m < 6) (hw : w < 6) (hn : 0 < n ∧ n ≤ sK S 9 (m * 6 + w)) (h9 : sK S 9 (m * 6 + w) ≤ 60) : ce_CT (ce_r 5) mX7_drink [.ref (a), .int (nI (m)), .int (nI (w)), .int (nI (n))] σ g (ce_tv (fun z9 σ1 g1 => z9 = nI (sK S 9 (m * 6 + w) - n) ∧ ∃ b1, ce_sm (a + 63 + 1) σ σ1 ∧ ce_LX σ1 a b1 ∧ ce_rX g1 a b1 (ks_act S (kv_dri (sK S) m w n) (sO S)) ∧ ce_fr a (a + 411) g g1)) ce_no := by
  refine ce_enter (by decide) rfl (Nat.le_of_ble_eq_true rfl) (L := [some (.ref (a)), some (.int (nI (m))), some (.int (nI (w))), some (.int (nI (n)))]) rfl ?_
  refine ce_aload_n dX7_drink_0 rfl ?_
  refine ce_getR dX7_drink_1 fRX7_10 (hX).1 (hX).2.1.1 ?_
  refine ce_iload_n dX7_drink_4 rfl ?_
  refine ce_iload_n dX7_drink_5 rfl ?_
  refine ce_iload_n dX7_drink_6 rfl ?_
  refine ce_cVp dX7_drink_7 hX0_drinkFault kRX7_165 (hf ▸ (m_X0_drinkFault (a + 1) (sK S) (sO S) (hX).2.2.1 hr.1 ok.1 (nI (m)) (nI (w)) (nI (n)))) rfl rfl ((hX).2.2.1).1 rfl (by decide) (Nat.le_of_ble_eq_true rfl) ?_
  refine ce_cSq dX7_drink_10 hX7_check kRX7_56 (m_X7_check0) rfl rfl (by decide) (Nat.le_of_ble_eq_true rfl) ?_
  refine ce_aload_n dX7_drink_13 rfl ?_
  refine ce_getR dX7_drink_14 fRX7_26 (hX).1 (hX).2.1.2.2.1 ?_
  refine ce_aload_n dX7_drink_17 rfl ?_
  refine ce_getR dX7_drink_18 fRX7_10 (hX).1 (hX).2.1.1 ?_
  refine ce_cVs dX7_drink_21 hX1_remember kRX7_129 (m_X1_remember (a + 63) (a + 1) b (sn S) (sKH S) (sOH S) (sK S) (sO S) (hX).2.2.2.1 hr.2.1 (hX).2.2.1 hr.1 ok.1.rk (by omega)) rfl rfl ((hX).2.2.2.1).1.1 rfl (by decide) (Nat.le_of_ble_eq_true rfl) (fun cs1 cg1 hcg1 => ?_)
  obtain ⟨b1, q1, q2, q3, q4⟩ := hcg1
  have q5 : ce_rC cg1 (a + 1) (sK S) (sO S) := hr.1.fr q4 (by omega)
  have q6 : ce_LX cs1 a b1 := hX.sm q1 q2
  refine ce_aload_n dX7_drink_24 rfl ?_
  refine ce_getR dX7_drink_25 fRX7_10 (q6).1 (q6).2.1.1 ?_
  refine ce_iload_n dX7_drink_28 rfl ?_
  refine ce_iload_n dX7_drink_29 rfl ?_
  refine ce_iload_n dX7_drink_30 rfl ?_
  refine ce_cVr dX7_drink_31 hX0_drinkUp kRX7_168 (m_X0_drinkUp (a + 1) (sK S) (sO S) (q6).2.2.1 q5 ok.1 (m) (w) (n) hm hw hn h9) rfl rfl ((q6).2.2.1).1 rfl (by decide) (Nat.le_of_ble_eq_true rfl) (fun rcg2 cg2 hcg2 => ?_)
  have q7 := rX_act hr q3 q4 hcg2.2.1 hcg2.2.2 q2.2.2.2
  refine ce_iret dX7_drink_34 rfl rfl (by decide) (by decide) ?_
  exact ⟨_, rfl, hcg2.1, b1, q1, q6, q7.1, q7.2⟩
set_option maxHeartbeats 2000000 in
set_option maxRecDepth 20000 in
theorem m_X7_drink_no {σ : ce_S} {g : ce_D} (a : Nat) (b : Nat → Nat) (S : ks_S) (hX : ce_LX σ a b) (hr : ce_rX g a b S) (ok : ks_ok S) (m w n : Int32) (f : Nat) (hf : kv_driF (sK S) m w n = f) (h0 : f ≠ 0) (h3 : f ≤ 3) : ce_CT (ce_rx 2) mX7_drink [.ref (a), .int (m), .int (w), .int (n)] σ g (fun _ _ _ => False) (kx_X f σ g) := by
  refine ce_enter (by decide) rfl (Nat.le_of_ble_eq_true rfl) (L := [some (.ref (a)), some (.int (m)), some (.int (w)), some (.int (n))]) rfl ?_
  refine ce_aload_n dX7_drink_0 rfl ?_
  refine ce_getR dX7_drink_1 fRX7_10 (hX).1 (hX).2.1.1 ?_
  refine ce_iload_n dX7_drink_4 rfl ?_
  refine ce_iload_n dX7_drink_5 rfl ?_
  refine ce_iload_n dX7_drink_6 rfl ?_
  refine ce_cVp dX7_drink_7 hX0_drinkFault kRX7_165 (hf ▸ (m_X0_drinkFault (a + 1) (sK S) (sO S) (hX).2.2.1 hr.1 ok.1 m w n)) rfl rfl ((hX).2.2.1).1 rfl (by decide) (Nat.le_of_ble_eq_true rfl) ?_
  exact ce_callSX dX7_drink_10 hX7_check kRX7_56 (m_X7_checkX f h0 h3) rfl rfl (by decide) (by decide) (by decide) (by decide) (fun v σ1 g1 h => h.elim) (fun E σ1 g1 h => ce_xout rfl (by decide) (by decide) h)
set_option maxHeartbeats 2000000 in
set_option maxRecDepth 20000 in
theorem m_X7_give_ok {σ : ce_S} {g : ce_D} (a : Nat) (b : Nat → Nat) (S : ks_S) (hX : ce_LX σ a b) (hr : ce_rX g a b S) (ok : ks_ok S) (m o w n : Nat) (hf : kv_gifF (sK S) (nI (m)) (nI (o)) (nI (w)) (nI (n)) = 0) (hm : m < 6) (ho : o < 6) (hw : w < 6) (hmo : m ≠ o) (hn : n ≤ sK S 9 (m * 6 + w)) : ce_CT (ce_r 5) mX7_give [.ref (a), .int (nI (m)), .int (nI (o)), .int (nI (w)), .int (nI (n))] σ g (ce_tv (fun z9 σ1 g1 => z9 = nI (sK S 9 (o * 6 + w) + n) ∧ ∃ b1, ce_sm (a + 63 + 1) σ σ1 ∧ ce_LX σ1 a b1 ∧ ce_rX g1 a b1 (ks_act S (kv_han (sK S) m o w n) (sO S)) ∧ ce_fr a (a + 411) g g1)) ce_no := by
  refine ce_enter (by decide) rfl (Nat.le_of_ble_eq_true rfl) (L := [some (.ref (a)), some (.int (nI (m))), some (.int (nI (o))), some (.int (nI (w))), some (.int (nI (n)))]) rfl ?_
  refine ce_aload_n dX7_give_0 rfl ?_
  refine ce_getR dX7_give_1 fRX7_10 (hX).1 (hX).2.1.1 ?_
  refine ce_iload_n dX7_give_4 rfl ?_
  refine ce_iload_n dX7_give_5 rfl ?_
  refine ce_iload_n dX7_give_6 rfl ?_
  refine ce_iload dX7_give_7 rfl ?_
  refine ce_cVp dX7_give_9 hX0_giftFault kRX7_171 (hf ▸ (m_X0_giftFault (a + 1) (sK S) (sO S) (hX).2.2.1 hr.1 ok.1 (nI (m)) (nI (o)) (nI (w)) (nI (n)))) rfl rfl ((hX).2.2.1).1 rfl (by decide) (Nat.le_of_ble_eq_true rfl) ?_
  refine ce_cSq dX7_give_12 hX7_check kRX7_56 (m_X7_check0) rfl rfl (by decide) (Nat.le_of_ble_eq_true rfl) ?_
  refine ce_aload_n dX7_give_15 rfl ?_
  refine ce_getR dX7_give_16 fRX7_26 (hX).1 (hX).2.1.2.2.1 ?_
  refine ce_aload_n dX7_give_19 rfl ?_
  refine ce_getR dX7_give_20 fRX7_10 (hX).1 (hX).2.1.1 ?_
  refine ce_cVs dX7_give_23 hX1_remember kRX7_129 (m_X1_remember (a + 63) (a + 1) b (sn S) (sKH S) (sOH S) (sK S) (sO S) (hX).2.2.2.1 hr.2.1 (hX).2.2.1 hr.1 ok.1.rk (by omega)) rfl rfl ((hX).2.2.2.1).1.1 rfl (by decide) (Nat.le_of_ble_eq_true rfl) (fun cs1 cg1 hcg1 => ?_)
  obtain ⟨b1, q1, q2, q3, q4⟩ := hcg1
  have q5 : ce_rC cg1 (a + 1) (sK S) (sO S) := hr.1.fr q4 (by omega)
  have q6 : ce_LX cs1 a b1 := hX.sm q1 q2
  refine ce_aload_n dX7_give_26 rfl ?_
  refine ce_getR dX7_give_27 fRX7_10 (q6).1 (q6).2.1.1 ?_
  refine ce_iload_n dX7_give_30 rfl ?_
  refine ce_iload_n dX7_give_31 rfl ?_
  refine ce_iload_n dX7_give_32 rfl ?_
  refine ce_iload dX7_give_33 rfl ?_
  refine ce_cVr dX7_give_35 hX0_handOver kRX7_175 (m_X0_handOver (a + 1) (sK S) (sO S) (q6).2.2.1 q5 ok.1 (m) (o) (w) (n) hm ho hw hmo hn) rfl rfl ((q6).2.2.1).1 rfl (by decide) (Nat.le_of_ble_eq_true rfl) (fun rcg2 cg2 hcg2 => ?_)
  have q7 := rX_act hr q3 q4 hcg2.2.1 hcg2.2.2 q2.2.2.2
  refine ce_iret dX7_give_38 rfl rfl (by decide) (by decide) ?_
  exact ⟨_, rfl, hcg2.1, b1, q1, q6, q7.1, q7.2⟩
set_option maxHeartbeats 2000000 in
set_option maxRecDepth 20000 in
theorem m_X7_give_no {σ : ce_S} {g : ce_D} (a : Nat) (b : Nat → Nat) (S : ks_S) (hX : ce_LX σ a b) (hr : ce_rX g a b S) (ok : ks_ok S) (m o w n : Int32) (f : Nat) (hf : kv_gifF (sK S) m o w n = f) (h0 : f ≠ 0) (h3 : f ≤ 3) : ce_CT (ce_rx 2) mX7_give [.ref (a), .int (m), .int (o), .int (w), .int (n)] σ g (fun _ _ _ => False) (kx_X f σ g) := by
  refine ce_enter (by decide) rfl (Nat.le_of_ble_eq_true rfl) (L := [some (.ref (a)), some (.int (m)), some (.int (o)), some (.int (w)), some (.int (n))]) rfl ?_
  refine ce_aload_n dX7_give_0 rfl ?_
  refine ce_getR dX7_give_1 fRX7_10 (hX).1 (hX).2.1.1 ?_
  refine ce_iload_n dX7_give_4 rfl ?_
  refine ce_iload_n dX7_give_5 rfl ?_
  refine ce_iload_n dX7_give_6 rfl ?_
  refine ce_iload dX7_give_7 rfl ?_
  refine ce_cVp dX7_give_9 hX0_giftFault kRX7_171 (hf ▸ (m_X0_giftFault (a + 1) (sK S) (sO S) (hX).2.2.1 hr.1 ok.1 m o w n)) rfl rfl ((hX).2.2.1).1 rfl (by decide) (Nat.le_of_ble_eq_true rfl) ?_
  exact ce_callSX dX7_give_12 hX7_check kRX7_56 (m_X7_checkX f h0 h3) rfl rfl (by decide) (by decide) (by decide) (by decide) (fun v σ1 g1 h => h.elim) (fun E σ1 g1 h => ce_xout rfl (by decide) (by decide) h)
set_option maxHeartbeats 2000000 in
set_option maxRecDepth 20000 in
theorem m_X7_cork_ok {σ : ce_S} {g : ce_D} (a : Nat) (b : Nat → Nat) (S : ks_S) (hX : ce_LX σ a b) (hr : ce_rX g a b S) (ok : ks_ok S) (m w : Nat) (hf : kv_corF (sK S) (nI (m)) (nI (w)) = 0) (hm : m < 6) (hw : w < 6) (h9 : 0 < sK S 9 (m * 6 + w)) : ce_CT (ce_r 5) mX7_cork [.ref (a), .int (nI (m)), .int (nI (w))] σ g (ce_tv (fun z9 σ1 g1 => z9 = (if 0 < sK S 4 w then 1 else 0) ∧ ∃ b1, ce_sm (a + 63 + 1) σ σ1 ∧ ce_LX σ1 a b1 ∧ ce_rX g1 a b1 (ks_act S (kv_cor (sK S) m w) (ko_cor (sK S) m w (sO S))) ∧ ce_fr a (a + 411) g g1)) ce_no := by
  refine ce_enter (by decide) rfl (Nat.le_of_ble_eq_true rfl) (L := [some (.ref (a)), some (.int (nI (m))), some (.int (nI (w)))]) rfl ?_
  refine ce_aload_n dX7_cork_0 rfl ?_
  refine ce_getR dX7_cork_1 fRX7_10 (hX).1 (hX).2.1.1 ?_
  refine ce_iload_n dX7_cork_4 rfl ?_
  refine ce_iload_n dX7_cork_5 rfl ?_
  refine ce_cVp dX7_cork_6 hX0_corkFault kRX7_178 (hf ▸ (m_X0_corkFault (a + 1) (sK S) (sO S) (hX).2.2.1 hr.1 ok.1 (nI (m)) (nI (w)))) rfl rfl ((hX).2.2.1).1 rfl (by decide) (Nat.le_of_ble_eq_true rfl) ?_
  refine ce_cSq dX7_cork_9 hX7_check kRX7_56 (m_X7_check0) rfl rfl (by decide) (Nat.le_of_ble_eq_true rfl) ?_
  refine ce_aload_n dX7_cork_12 rfl ?_
  refine ce_getR dX7_cork_13 fRX7_26 (hX).1 (hX).2.1.2.2.1 ?_
  refine ce_aload_n dX7_cork_16 rfl ?_
  refine ce_getR dX7_cork_17 fRX7_10 (hX).1 (hX).2.1.1 ?_
  refine ce_cVs dX7_cork_20 hX1_remember kRX7_129 (m_X1_remember (a + 63) (a + 1) b (sn S) (sKH S) (sOH S) (sK S) (sO S) (hX).2.2.2.1 hr.2.1 (hX).2.2.1 hr.1 ok.1.rk (by omega)) rfl rfl ((hX).2.2.2.1).1.1 rfl (by decide) (Nat.le_of_ble_eq_true rfl) (fun cs1 cg1 hcg1 => ?_)
  obtain ⟨b1, q1, q2, q3, q4⟩ := hcg1
  have q5 : ce_rC cg1 (a + 1) (sK S) (sO S) := hr.1.fr q4 (by omega)
  have q6 : ce_LX cs1 a b1 := hX.sm q1 q2
  refine ce_aload_n dX7_cork_23 rfl ?_
  refine ce_getR dX7_cork_24 fRX7_10 (q6).1 (q6).2.1.1 ?_
  refine ce_iload_n dX7_cork_27 rfl ?_
  refine ce_iload_n dX7_cork_28 rfl ?_
  refine ce_cVr dX7_cork_29 hX0_replaceCorked kRX7_181 (m_X0_replaceCorked (a + 1) (sK S) (sO S) (q6).2.2.1 q5 ok.1 (m) (w) hm hw h9) rfl rfl ((q6).2.2.1).1 rfl (by decide) (Nat.le_of_ble_eq_true rfl) (fun rcg2 cg2 hcg2 => ?_)
  have q7 := rX_act hr q3 q4 hcg2.2.1 hcg2.2.2 q2.2.2.2
  refine ce_iret dX7_cork_32 rfl rfl (by decide) (by decide) ?_
  exact ⟨_, rfl, hcg2.1, b1, q1, q6, q7.1, q7.2⟩
set_option maxHeartbeats 2000000 in
set_option maxRecDepth 20000 in
theorem m_X7_cork_no {σ : ce_S} {g : ce_D} (a : Nat) (b : Nat → Nat) (S : ks_S) (hX : ce_LX σ a b) (hr : ce_rX g a b S) (ok : ks_ok S) (m w : Int32) (f : Nat) (hf : kv_corF (sK S) m w = f) (h0 : f ≠ 0) (h3 : f ≤ 3) : ce_CT (ce_rx 2) mX7_cork [.ref (a), .int (m), .int (w)] σ g (fun _ _ _ => False) (kx_X f σ g) := by
  refine ce_enter (by decide) rfl (Nat.le_of_ble_eq_true rfl) (L := [some (.ref (a)), some (.int (m)), some (.int (w))]) rfl ?_
  refine ce_aload_n dX7_cork_0 rfl ?_
  refine ce_getR dX7_cork_1 fRX7_10 (hX).1 (hX).2.1.1 ?_
  refine ce_iload_n dX7_cork_4 rfl ?_
  refine ce_iload_n dX7_cork_5 rfl ?_
  refine ce_cVp dX7_cork_6 hX0_corkFault kRX7_178 (hf ▸ (m_X0_corkFault (a + 1) (sK S) (sO S) (hX).2.2.1 hr.1 ok.1 m w)) rfl rfl ((hX).2.2.1).1 rfl (by decide) (Nat.le_of_ble_eq_true rfl) ?_
  exact ce_callSX dX7_cork_9 hX7_check kRX7_56 (m_X7_checkX f h0 h3) rfl rfl (by decide) (by decide) (by decide) (by decide) (fun v σ1 g1 h => h.elim) (fun E σ1 g1 h => ce_xout rfl (by decide) (by decide) h)
set_option maxHeartbeats 2000000 in
set_option maxRecDepth 20000 in
theorem m_X7_move_ok {σ : ce_S} {g : ce_D} (a : Nat) (b : Nat → Nat) (S : ks_S) (hX : ce_LX σ a b) (hr : ce_rX g a b S) (ok : ks_ok S) (x y n : Nat) (hf : kv_carF (sK S) (nI (x)) (nI (y)) (nI (n)) = 0) (hx : x < sK S 0 2) (hy : y < sK S 0 2) (hxy : x ≠ y) (hn : 0 < n ∧ n ≤ sK S 12 x) (hm : sK S 12 y + n ≤ sK S 11 y) : ce_CT (ce_r 5) mX7_move [.ref (a), .int (nI (x)), .int (nI (y)), .int (nI (n))] σ g (ce_tv (fun z9 σ1 g1 => z9 = nI (sK S 12 y + n) ∧ ∃ b1, ce_sm (a + 63 + 1) σ σ1 ∧ ce_LX σ1 a b1 ∧ ce_rX g1 a b1 (ks_act S (kv_car (sK S) x y n) (sO S)) ∧ ce_fr a (a + 411) g g1)) ce_no := by
  refine ce_enter (by decide) rfl (Nat.le_of_ble_eq_true rfl) (L := [some (.ref (a)), some (.int (nI (x))), some (.int (nI (y))), some (.int (nI (n)))]) rfl ?_
  refine ce_aload_n dX7_move_0 rfl ?_
  refine ce_getR dX7_move_1 fRX7_10 (hX).1 (hX).2.1.1 ?_
  refine ce_getR dX7_move_4 fRX7_107 ((hX).2.2.1).1 ((hX).2.2.1).2.2.1.2.2.2.2 ?_
  refine ce_iload_n dX7_move_7 rfl ?_
  refine ce_iload_n dX7_move_8 rfl ?_
  refine ce_iload_n dX7_move_9 rfl ?_
  refine ce_cVp dX7_move_10 hX3_carryFault kRX7_184 (hf ▸ (m_X3_carryFault (a + 1 + 16) (sK S) ((hX).2.2.1).2.2.2.2.2 hr.1.k ok.1.rk (nI (x)) (nI (y)) (nI (n)))) rfl rfl ((hX).2.2.1).2.2.2.2.2.1 rfl (by decide) (Nat.le_of_ble_eq_true rfl) ?_
  refine ce_cSq dX7_move_13 hX7_check kRX7_56 (m_X7_check0) rfl rfl (by decide) (Nat.le_of_ble_eq_true rfl) ?_
  refine ce_aload_n dX7_move_16 rfl ?_
  refine ce_getR dX7_move_17 fRX7_26 (hX).1 (hX).2.1.2.2.1 ?_
  refine ce_aload_n dX7_move_20 rfl ?_
  refine ce_getR dX7_move_21 fRX7_10 (hX).1 (hX).2.1.1 ?_
  refine ce_cVs dX7_move_24 hX1_remember kRX7_129 (m_X1_remember (a + 63) (a + 1) b (sn S) (sKH S) (sOH S) (sK S) (sO S) (hX).2.2.2.1 hr.2.1 (hX).2.2.1 hr.1 ok.1.rk (by omega)) rfl rfl ((hX).2.2.2.1).1.1 rfl (by decide) (Nat.le_of_ble_eq_true rfl) (fun cs1 cg1 hcg1 => ?_)
  obtain ⟨b1, q1, q2, q3, q4⟩ := hcg1
  have q5 : ce_rC cg1 (a + 1) (sK S) (sO S) := hr.1.fr q4 (by omega)
  have q6 : ce_LX cs1 a b1 := hX.sm q1 q2
  refine ce_aload_n dX7_move_27 rfl ?_
  refine ce_getR dX7_move_28 fRX7_10 (q6).1 (q6).2.1.1 ?_
  refine ce_getR dX7_move_31 fRX7_107 ((q6).2.2.1).1 ((q6).2.2.1).2.2.1.2.2.2.2 ?_
  refine ce_iload_n dX7_move_34 rfl ?_
  refine ce_iload_n dX7_move_35 rfl ?_
  refine ce_iload_n dX7_move_36 rfl ?_
  refine ce_cVr dX7_move_37 hX3_carry kRX7_187 (m_X3_carry (a + 1 + 16) (sK S) ((q6).2.2.1).2.2.2.2.2 q5.k ok.1.rk (x) (y) (n) hx hy hxy hn hm) rfl rfl ((q6).2.2.1).2.2.2.2.2.1 rfl (by decide) (Nat.le_of_ble_eq_true rfl) (fun rcg2 cg2 hcg2 => ?_)
  have q7 := rX_act hr q3 q4 (q5.rk hcg2.2.1 hcg2.2.2 kv_eq_car) (hcg2.2.2.wk ⟨by omega, by omega⟩) q2.2.2.2
  refine ce_iret dX7_move_40 rfl rfl (by decide) (by decide) ?_
  exact ⟨_, rfl, hcg2.1, b1, q1, q6, q7.1, q7.2⟩
set_option maxHeartbeats 2000000 in
set_option maxRecDepth 20000 in
theorem m_X7_move_no {σ : ce_S} {g : ce_D} (a : Nat) (b : Nat → Nat) (S : ks_S) (hX : ce_LX σ a b) (hr : ce_rX g a b S) (ok : ks_ok S) (x y n : Int32) (f : Nat) (hf : kv_carF (sK S) x y n = f) (h0 : f ≠ 0) (h3 : f ≤ 3) : ce_CT (ce_rx 2) mX7_move [.ref (a), .int (x), .int (y), .int (n)] σ g (fun _ _ _ => False) (kx_X f σ g) := by
  refine ce_enter (by decide) rfl (Nat.le_of_ble_eq_true rfl) (L := [some (.ref (a)), some (.int (x)), some (.int (y)), some (.int (n))]) rfl ?_
  refine ce_aload_n dX7_move_0 rfl ?_
  refine ce_getR dX7_move_1 fRX7_10 (hX).1 (hX).2.1.1 ?_
  refine ce_getR dX7_move_4 fRX7_107 ((hX).2.2.1).1 ((hX).2.2.1).2.2.1.2.2.2.2 ?_
  refine ce_iload_n dX7_move_7 rfl ?_
  refine ce_iload_n dX7_move_8 rfl ?_
  refine ce_iload_n dX7_move_9 rfl ?_
  refine ce_cVp dX7_move_10 hX3_carryFault kRX7_184 (hf ▸ (m_X3_carryFault (a + 1 + 16) (sK S) ((hX).2.2.1).2.2.2.2.2 hr.1.k ok.1.rk x y n)) rfl rfl ((hX).2.2.1).2.2.2.2.2.1 rfl (by decide) (Nat.le_of_ble_eq_true rfl) ?_
  exact ce_callSX dX7_move_13 hX7_check kRX7_56 (m_X7_checkX f h0 h3) rfl rfl (by decide) (by decide) (by decide) (by decide) (fun v σ1 g1 h => h.elim) (fun E σ1 g1 h => ce_xout rfl (by decide) (by decide) h)
set_option maxHeartbeats 2000000 in
set_option maxRecDepth 20000 in
theorem m_X7_pay_ok {σ : ce_S} {g : ce_D} (a : Nat) (b : Nat → Nat) (S : ks_S) (hX : ce_LX σ a b) (hr : ce_rX g a b S) (ok : ks_ok S) (m : Nat) (hm : m < sK S 0 0) : ce_CT (ce_r 5) mX7_pay [.ref (a), .int (nI (m))] σ g (ce_tv (fun z9 σ1 g1 => z9 = sO S m ∧ ∃ b1, ce_sm (a + 63 + 1) σ σ1 ∧ ce_LX σ1 a b1 ∧ ce_rX g1 a b1 (ks_act S (sK S) (upd (sO S) m 0)) ∧ ce_fr a (a + 411) g g1)) ce_no := by
  have hM := ok.1.me
  refine ce_enter (by decide) rfl (Nat.le_of_ble_eq_true rfl) (L := [some (.ref (a)), some (.int (nI (m)))]) rfl ?_
  refine ce_aload_n dX7_pay_0 rfl ?_
  refine ce_getR dX7_pay_1 fRX7_10 (hX).1 (hX).2.1.1 ?_
  refine ce_iload_n dX7_pay_4 rfl ?_
  refine ce_cVp dX7_pay_5 hX0_knowsMember kRX7_93 (m_X0_knowsMember (a + 1) (sK S) (sO S) (hX).2.2.1 hr.1 ok.1 (nI (m))) rfl rfl ((hX).2.2.1).1 rfl (by decide) (Nat.le_of_ble_eq_true rfl) ?_
  refine ce_if_eqB (tgt := 15) dX7_pay_8 (by decide) rfl (fun c_8 => ?_) (fun c_8 => ?_)
  · exact absurd ((ce_in_nI (by omega)).mpr hm) c_8
  · refine ce_iconst (v := nI (0)) dX7_pay_11 (by decide) ?_
    refine ce_goto (tgt := 16) dX7_pay_12 (by decide) ?_
    refine ce_cSq dX7_pay_16 hX7_check kRX7_56 (m_X7_check0) rfl rfl (by decide) (Nat.le_of_ble_eq_true rfl) ?_
    refine ce_aload_n dX7_pay_19 rfl ?_
    refine ce_getR dX7_pay_20 fRX7_26 (hX).1 (hX).2.1.2.2.1 ?_
    refine ce_aload_n dX7_pay_23 rfl ?_
    refine ce_getR dX7_pay_24 fRX7_10 (hX).1 (hX).2.1.1 ?_
    refine ce_cVs dX7_pay_27 hX1_remember kRX7_129 (m_X1_remember (a + 63) (a + 1) b (sn S) (sKH S) (sOH S) (sK S) (sO S) (hX).2.2.2.1 hr.2.1 (hX).2.2.1 hr.1 ok.1.rk (by omega)) rfl rfl ((hX).2.2.2.1).1.1 rfl (by decide) (Nat.le_of_ble_eq_true rfl) (fun cs1 cg1 hcg1 => ?_)
    obtain ⟨b1, q1, q2, q3, q4⟩ := hcg1
    have q5 : ce_rC cg1 (a + 1) (sK S) (sO S) := hr.1.fr q4 (by omega)
    have q6 : ce_LX cs1 a b1 := hX.sm q1 q2
    refine ce_aload_n dX7_pay_30 rfl ?_
    refine ce_getR dX7_pay_31 fRX7_10 (q6).1 (q6).2.1.1 ?_
    refine ce_iload_n dX7_pay_34 rfl ?_
    refine ce_cVr dX7_pay_35 hX0_settle kRX7_190 (m_X0_settle (a + 1) (sK S) (sO S) (q6).2.2.1 q5 ok.1 m (by omega)) rfl rfl ((q6).2.2.1).1 rfl (by decide) (Nat.le_of_ble_eq_true rfl) (fun rcg2 cg2 hcg2 => ?_)
    have q7 := rX_act hr q3 q4 hcg2.2.1 hcg2.2.2 q2.2.2.2
    refine ce_iret dX7_pay_38 rfl rfl (by decide) (by decide) ?_
    exact ⟨_, rfl, hcg2.1, b1, q1, q6, q7.1, q7.2⟩
set_option maxHeartbeats 2000000 in
set_option maxRecDepth 20000 in
theorem m_X7_pay_no {σ : ce_S} {g : ce_D} (a : Nat) (b : Nat → Nat) (S : ks_S) (hX : ce_LX σ a b) (hr : ce_rX g a b S) (ok : ks_ok S) (x : Int32) (hx : ¬ ce_in x (sK S 0 0)) : ce_CT (ce_rx 2) mX7_pay [.ref (a), .int (x)] σ g (fun _ _ _ => False) (kx_X 1 σ g) := by
  refine ce_enter (by decide) rfl (Nat.le_of_ble_eq_true rfl) (L := [some (.ref (a)), some (.int (x))]) rfl ?_
  refine ce_aload_n dX7_pay_0 rfl ?_
  refine ce_getR dX7_pay_1 fRX7_10 (hX).1 (hX).2.1.1 ?_
  refine ce_iload_n dX7_pay_4 rfl ?_
  refine ce_cVp dX7_pay_5 hX0_knowsMember kRX7_93 (m_X0_knowsMember (a + 1) (sK S) (sO S) (hX).2.2.1 hr.1 ok.1 (x)) rfl rfl ((hX).2.2.1).1 rfl (by decide) (Nat.le_of_ble_eq_true rfl) ?_
  refine ce_if_eqB (tgt := 15) dX7_pay_8 (by decide) rfl (fun c_8 => ?_) (fun c_8 => ?_)
  · refine ce_iconst (v := nI (1)) dX7_pay_15 (by decide) ?_
    exact ce_callSX dX7_pay_16 hX7_check kRX7_56 (m_X7_checkX 1 (by decide) (by decide)) rfl rfl (by decide) (by decide) (by decide) (by decide) (fun v σ1 g1 h => h.elim) (fun E σ1 g1 h => ce_xout rfl (by decide) (by decide) h)
  · exact absurd c_8 hx
