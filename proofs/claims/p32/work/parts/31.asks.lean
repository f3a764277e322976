set_option maxHeartbeats 2000000 in
set_option maxRecDepth 20000 in
theorem m_X7_about_ok0 {σ : ce_S} {g : ce_D} (a : Nat) (b : Nat → Nat) (S : ks_S) (hX : ce_LX σ a b) (hr : ce_rX g a b S) (ok : ks_ok S) : ce_CT (ce_r 5) mX7_about [.ref (a), .int (nI (0))] σ g (ce_pv (nI ((sK S) 0 0)) σ g) ce_no := by
  have hM := ok.1.me
  have hW := ok.1.wi
  have hB := ok.1.i7
  refine ce_enter (by decide) rfl (Nat.le_of_ble_eq_true rfl) (L := [some (.ref (a)), some (.int (nI (0)))]) rfl ?_
  refine ce_iload_n dX7_about_0 rfl ?_
  refine ce_iconst (v := nI (0)) dX7_about_1 (by decide) ?_
  refine ce_bipush (v := nI (9)) dX7_about_2 (by decide) ?_
  refine ce_cSp dX7_about_4 hX7_rangeFault kRX7_86 ((show kx_ran (nI (0)) (nI (0)).toInt (nI (9)).toInt = 0 by decide) ▸ m_X7_rangeFault (nI (0)) (nI (0)) (nI (9))) rfl rfl (by decide) (Nat.le_of_ble_eq_true rfl) ?_
  refine ce_cSq dX7_about_7 hX7_check kRX7_56 (m_X7_check0) rfl rfl (by decide) (Nat.le_of_ble_eq_true rfl) ?_
  refine ce_aload_n dX7_about_10 rfl ?_
  refine ce_getR dX7_about_11 fRX7_10 (hX).1 (hX).2.1.1 ?_
  refine ce_iload_n dX7_about_14 rfl ?_
  refine ce_cVp dX7_about_15 hX0_factOfAll kRX7_90 (m_X0_factOfAll0 (a + 1) (sK S) (sO S) (hX).2.2.1 hr.1 ok.1  ) rfl rfl ((hX).2.2.1).1 rfl (by decide) (Nat.le_of_ble_eq_true rfl) ?_
  refine ce_iret dX7_about_18 rfl rfl (by decide) (by decide) ?_
  exact ⟨rfl, rfl, rfl⟩
set_option maxHeartbeats 2000000 in
set_option maxRecDepth 20000 in
theorem m_X7_about_ok1 {σ : ce_S} {g : ce_D} (a : Nat) (b : Nat → Nat) (S : ks_S) (hX : ce_LX σ a b) (hr : ce_rX g a b S) (ok : ks_ok S) : ce_CT (ce_r 5) mX7_about [.ref (a), .int (nI (1))] σ g (ce_pv (nI ((sK S) 0 1)) σ g) ce_no := by
  have hM := ok.1.me
  have hW := ok.1.wi
  have hB := ok.1.i7
  refine ce_enter (by decide) rfl (Nat.le_of_ble_eq_true rfl) (L := [some (.ref (a)), some (.int (nI (1)))]) rfl ?_
  refine ce_iload_n dX7_about_0 rfl ?_
  refine ce_iconst (v := nI (0)) dX7_about_1 (by decide) ?_
  refine ce_bipush (v := nI (9)) dX7_about_2 (by decide) ?_
  refine ce_cSp dX7_about_4 hX7_rangeFault kRX7_86 ((show kx_ran (nI (1)) (nI (0)).toInt (nI (9)).toInt = 0 by decide) ▸ m_X7_rangeFault (nI (1)) (nI (0)) (nI (9))) rfl rfl (by decide) (Nat.le_of_ble_eq_true rfl) ?_
  refine ce_cSq dX7_about_7 hX7_check kRX7_56 (m_X7_check0) rfl rfl (by decide) (Nat.le_of_ble_eq_true rfl) ?_
  refine ce_aload_n dX7_about_10 rfl ?_
  refine ce_getR dX7_about_11 fRX7_10 (hX).1 (hX).2.1.1 ?_
  refine ce_iload_n dX7_about_14 rfl ?_
  refine ce_cVp dX7_about_15 hX0_factOfAll kRX7_90 (m_X0_factOfAll1 (a + 1) (sK S) (sO S) (hX).2.2.1 hr.1 ok.1  ) rfl rfl ((hX).2.2.1).1 rfl (by decide) (Nat.le_of_ble_eq_true rfl) ?_
  refine ce_iret dX7_about_18 rfl rfl (by decide) (by decide) ?_
  exact ⟨rfl, rfl, rfl⟩
set_option maxHeartbeats 2000000 in
set_option maxRecDepth 20000 in
theorem m_X7_about_ok2 {σ : ce_S} {g : ce_D} (a : Nat) (b : Nat → Nat) (S : ks_S) (hX : ce_LX σ a b) (hr : ce_rX g a b S) (ok : ks_ok S) : ce_CT (ce_r 5) mX7_about [.ref (a), .int (nI (2))] σ g (ce_pv (nI ((sK S) 0 2)) σ g) ce_no := by
  have hM := ok.1.me
  have hW := ok.1.wi
  have hB := ok.1.i7
  refine ce_enter (by decide) rfl (Nat.le_of_ble_eq_true rfl) (L := [some (.ref (a)), some (.int (nI (2)))]) rfl ?_
  refine ce_iload_n dX7_about_0 rfl ?_
  refine ce_iconst (v := nI (0)) dX7_about_1 (by decide) ?_
  refine ce_bipush (v := nI (9)) dX7_about_2 (by decide) ?_
  refine ce_cSp dX7_about_4 hX7_rangeFault kRX7_86 ((show kx_ran (nI (2)) (nI (0)).toInt (nI (9)).toInt = 0 by decide) ▸ m_X7_rangeFault (nI (2)) (nI (0)) (nI (9))) rfl rfl (by decide) (Nat.le_of_ble_eq_true rfl) ?_
  refine ce_cSq dX7_about_7 hX7_check kRX7_56 (m_X7_check0) rfl rfl (by decide) (Nat.le_of_ble_eq_true rfl) ?_
  refine ce_aload_n dX7_about_10 rfl ?_
  refine ce_getR dX7_about_11 fRX7_10 (hX).1 (hX).2.1.1 ?_
  refine ce_iload_n dX7_about_14 rfl ?_
  refine ce_cVp dX7_about_15 hX0_factOfAll kRX7_90 (m_X0_factOfAll2 (a + 1) (sK S) (sO S) (hX).2.2.1 hr.1 ok.1  ) rfl rfl ((hX).2.2.1).1 rfl (by decide) (Nat.le_of_ble_eq_true rfl) ?_
  refine ce_iret dX7_about_18 rfl rfl (by decide) (by decide) ?_
  exact ⟨rfl, rfl, rfl⟩
set_option maxHeartbeats 2000000 in
set_option maxRecDepth 20000 in
theorem m_X7_about_ok3 {σ : ce_S} {g : ce_D} (a : Nat) (b : Nat → Nat) (S : ks_S) (hX : ce_LX σ a b) (hr : ce_rX g a b S) (ok : ks_ok S) : ce_CT (ce_r 5) mX7_about [.ref (a), .int (nI (3))] σ g (ce_pv (nI (ce_sum ((sK S) 9) 36)) σ g) ce_no := by
  have hM := ok.1.me
  have hW := ok.1.wi
  have hB := ok.1.i7
  refine ce_enter (by decide) rfl (Nat.le_of_ble_eq_true rfl) (L := [some (.ref (a)), some (.int (nI (3)))]) rfl ?_
  refine ce_iload_n dX7_about_0 rfl ?_
  refine ce_iconst (v := nI (0)) dX7_about_1 (by decide) ?_
  refine ce_bipush (v := nI (9)) dX7_about_2 (by decide) ?_
  refine ce_cSp dX7_about_4 hX7_rangeFault kRX7_86 ((show kx_ran (nI (3)) (nI (0)).toInt (nI (9)).toInt = 0 by decide) ▸ m_X7_rangeFault (nI (3)) (nI (0)) (nI (9))) rfl rfl (by decide) (Nat.le_of_ble_eq_true rfl) ?_
  refine ce_cSq dX7_about_7 hX7_check kRX7_56 (m_X7_check0) rfl rfl (by decide) (Nat.le_of_ble_eq_true rfl) ?_
  refine ce_aload_n dX7_about_10 rfl ?_
  refine ce_getR dX7_about_11 fRX7_10 (hX).1 (hX).2.1.1 ?_
  refine ce_iload_n dX7_about_14 rfl ?_
  refine ce_cVp dX7_about_15 hX0_factOfAll kRX7_90 (m_X0_factOfAll3 (a + 1) (sK S) (sO S) (hX).2.2.1 hr.1 ok.1  ) rfl rfl ((hX).2.2.1).1 rfl (by decide) (Nat.le_of_ble_eq_true rfl) ?_
  refine ce_iret dX7_about_18 rfl rfl (by decide) (by decide) ?_
  exact ⟨rfl, rfl, rfl⟩
set_option maxHeartbeats 2000000 in
set_option maxRecDepth 20000 in
theorem m_X7_about_ok4 {σ : ce_S} {g : ce_D} (a : Nat) (b : Nat → Nat) (S : ks_S) (hX : ce_LX σ a b) (hr : ce_rX g a b S) (ok : ks_ok S) : ce_CT (ce_r 5) mX7_about [.ref (a), .int (nI (4))] σ g (ce_pv (nI (ce_sum ((sK S) 10) 36)) σ g) ce_no := by
  have hM := ok.1.me
  have hW := ok.1.wi
  have hB := ok.1.i7
  refine ce_enter (by decide) rfl (Nat.le_of_ble_eq_true rfl) (L := [some (.ref (a)), some (.int (nI (4)))]) rfl ?_
  refine ce_iload_n dX7_about_0 rfl ?_
  refine ce_iconst (v := nI (0)) dX7_about_1 (by decide) ?_
  refine ce_bipush (v := nI (9)) dX7_about_2 (by decide) ?_
  refine ce_cSp dX7_about_4 hX7_rangeFault kRX7_86 ((show kx_ran (nI (4)) (nI (0)).toInt (nI (9)).toInt = 0 by decide) ▸ m_X7_rangeFault (nI (4)) (nI (0)) (nI (9))) rfl rfl (by decide) (Nat.le_of_ble_eq_true rfl) ?_
  refine ce_cSq dX7_about_7 hX7_check kRX7_56 (m_X7_check0) rfl rfl (by decide) (Nat.le_of_ble_eq_true rfl) ?_
  refine ce_aload_n dX7_about_10 rfl ?_
  refine ce_getR dX7_about_11 fRX7_10 (hX).1 (hX).2.1.1 ?_
  refine ce_iload_n dX7_about_14 rfl ?_
  refine ce_cVp dX7_about_15 hX0_factOfAll kRX7_90 (m_X0_factOfAll4 (a + 1) (sK S) (sO S) (hX).2.2.1 hr.1 ok.1  ) rfl rfl ((hX).2.2.1).1 rfl (by decide) (Nat.le_of_ble_eq_true rfl) ?_
  refine ce_iret dX7_about_18 rfl rfl (by decide) (by decide) ?_
  exact ⟨rfl, rfl, rfl⟩
set_option maxHeartbeats 2000000 in
set_option maxRecDepth 20000 in
theorem m_X7_about_ok5 {σ : ce_S} {g : ce_D} (a : Nat) (b : Nat → Nat) (S : ks_S) (hX : ce_LX σ a b) (hr : ce_rX g a b S) (ok : ks_ok S) : ce_CT (ce_r 5) mX7_about [.ref (a), .int (nI (5))] σ g (ce_pv (nI (ce_sum ((sK S) 6) 6)) σ g) ce_no := by
  have hM := ok.1.me
  have hW := ok.1.wi
  have hB := ok.1.i7
  refine ce_enter (by decide) rfl (Nat.le_of_ble_eq_true rfl) (L := [some (.ref (a)), some (.int (nI (5)))]) rfl ?_
  refine ce_iload_n dX7_about_0 rfl ?_
  refine ce_iconst (v := nI (0)) dX7_about_1 (by decide) ?_
  refine ce_bipush (v := nI (9)) dX7_about_2 (by decide) ?_
  refine ce_cSp dX7_about_4 hX7_rangeFault kRX7_86 ((show kx_ran (nI (5)) (nI (0)).toInt (nI (9)).toInt = 0 by decide) ▸ m_X7_rangeFault (nI (5)) (nI (0)) (nI (9))) rfl rfl (by decide) (Nat.le_of_ble_eq_true rfl) ?_
  refine ce_cSq dX7_about_7 hX7_check kRX7_56 (m_X7_check0) rfl rfl (by decide) (Nat.le_of_ble_eq_true rfl) ?_
  refine ce_aload_n dX7_about_10 rfl ?_
  refine ce_getR dX7_about_11 fRX7_10 (hX).1 (hX).2.1.1 ?_
  refine ce_iload_n dX7_about_14 rfl ?_
  refine ce_cVp dX7_about_15 hX0_factOfAll kRX7_90 (m_X0_factOfAll5 (a + 1) (sK S) (sO S) (hX).2.2.1 hr.1 ok.1  ) rfl rfl ((hX).2.2.1).1 rfl (by decide) (Nat.le_of_ble_eq_true rfl) ?_
  refine ce_iret dX7_about_18 rfl rfl (by decide) (by decide) ?_
  exact ⟨rfl, rfl, rfl⟩
set_option maxHeartbeats 2000000 in
set_option maxRecDepth 20000 in
theorem m_X7_about_ok6 {σ : ce_S} {g : ce_D} (a : Nat) (b : Nat → Nat) (S : ks_S) (hX : ce_LX σ a b) (hr : ce_rX g a b S) (ok : ks_ok S) : ce_CT (ce_r 5) mX7_about [.ref (a), .int (nI (6))] σ g (ce_pv (nI (ce_sum ((sK S) 4) 6)) σ g) ce_no := by
  have hM := ok.1.me
  have hW := ok.1.wi
  have hB := ok.1.i7
  refine ce_enter (by decide) rfl (Nat.le_of_ble_eq_true rfl) (L := [some (.ref (a)), some (.int (nI (6)))]) rfl ?_
  refine ce_iload_n dX7_about_0 rfl ?_
  refine ce_iconst (v := nI (0)) dX7_about_1 (by decide) ?_
  refine ce_bipush (v := nI (9)) dX7_about_2 (by decide) ?_
  refine ce_cSp dX7_about_4 hX7_rangeFault kRX7_86 ((show kx_ran (nI (6)) (nI (0)).toInt (nI (9)).toInt = 0 by decide) ▸ m_X7_rangeFault (nI (6)) (nI (0)) (nI (9))) rfl rfl (by decide) (Nat.le_of_ble_eq_true rfl) ?_
  refine ce_cSq dX7_about_7 hX7_check kRX7_56 (m_X7_check0) rfl rfl (by decide) (Nat.le_of_ble_eq_true rfl) ?_
  refine ce_aload_n dX7_about_10 rfl ?_
  refine ce_getR dX7_about_11 fRX7_10 (hX).1 (hX).2.1.1 ?_
  refine ce_iload_n dX7_about_14 rfl ?_
  refine ce_cVp dX7_about_15 hX0_factOfAll kRX7_90 (m_X0_factOfAll6 (a + 1) (sK S) (sO S) (hX).2.2.1 hr.1 ok.1  ) rfl rfl ((hX).2.2.1).1 rfl (by decide) (Nat.le_of_ble_eq_true rfl) ?_
  refine ce_iret dX7_about_18 rfl rfl (by decide) (by decide) ?_
  exact ⟨rfl, rfl, rfl⟩
set_option maxHeartbeats 2000000 in
set_option maxRecDepth 20000 in
theorem m_X7_about_ok7 {σ : ce_S} {g : ce_D} (a : Nat) (b : Nat → Nat) (S : ks_S) (hX : ce_LX σ a b) (hr : ce_rX g a b S) (ok : ks_ok S) : ce_CT (ce_r 5) mX7_about [.ref (a), .int (nI (7))] σ g (ce_pv (ce_isum (sO S) 6) σ g) ce_no := by
  have hM := ok.1.me
  have hW := ok.1.wi
  have hB := ok.1.i7
  refine ce_enter (by decide) rfl (Nat.le_of_ble_eq_true rfl) (L := [some (.ref (a)), some (.int (nI (7)))]) rfl ?_
  refine ce_iload_n dX7_about_0 rfl ?_
  refine ce_iconst (v := nI (0)) dX7_about_1 (by decide) ?_
  refine ce_bipush (v := nI (9)) dX7_about_2 (by decide) ?_
  refine ce_cSp dX7_about_4 hX7_rangeFault kRX7_86 ((show kx_ran (nI (7)) (nI (0)).toInt (nI (9)).toInt = 0 by decide) ▸ m_X7_rangeFault (nI (7)) (nI (0)) (nI (9))) rfl rfl (by decide) (Nat.le_of_ble_eq_true rfl) ?_
  refine ce_cSq dX7_about_7 hX7_check kRX7_56 (m_X7_check0) rfl rfl (by decide) (Nat.le_of_ble_eq_true rfl) ?_
  refine ce_aload_n dX7_about_10 rfl ?_
  refine ce_getR dX7_about_11 fRX7_10 (hX).1 (hX).2.1.1 ?_
  refine ce_iload_n dX7_about_14 rfl ?_
  refine ce_cVp dX7_about_15 hX0_factOfAll kRX7_90 (m_X0_factOfAll7 (a + 1) (sK S) (sO S) (hX).2.2.1 hr.1 ok.1  ) rfl rfl ((hX).2.2.1).1 rfl (by decide) (Nat.le_of_ble_eq_true rfl) ?_
  refine ce_iret dX7_about_18 rfl rfl (by decide) (by decide) ?_
  exact ⟨rfl, rfl, rfl⟩
set_option maxHeartbeats 2000000 in
set_option maxRecDepth 20000 in
theorem m_X7_about_ok8 {σ : ce_S} {g : ce_D} (a : Nat) (b : Nat → Nat) (S : ks_S) (hX : ce_LX σ a b) (hr : ce_rX g a b S) (ok : ks_ok S) : ce_CT (ce_r 5) mX7_about [.ref (a), .int (nI (8))] σ g (ce_pv (nI (kv_emp (sK S) ((sK S) 0 2))) σ g) ce_no := by
  have hM := ok.1.me
  have hW := ok.1.wi
  have hB := ok.1.i7
  refine ce_enter (by decide) rfl (Nat.le_of_ble_eq_true rfl) (L := [some (.ref (a)), some (.int (nI (8)))]) rfl ?_
  refine ce_iload_n dX7_about_0 rfl ?_
  refine ce_iconst (v := nI (0)) dX7_about_1 (by decide) ?_
  refine ce_bipush (v := nI (9)) dX7_about_2 (by decide) ?_
  refine ce_cSp dX7_about_4 hX7_rangeFault kRX7_86 ((show kx_ran (nI (8)) (nI (0)).toInt (nI (9)).toInt = 0 by decide) ▸ m_X7_rangeFault (nI (8)) (nI (0)) (nI (9))) rfl rfl (by decide) (Nat.le_of_ble_eq_true rfl) ?_
  refine ce_cSq dX7_about_7 hX7_check kRX7_56 (m_X7_check0) rfl rfl (by decide) (Nat.le_of_ble_eq_true rfl) ?_
  refine ce_aload_n dX7_about_10 rfl ?_
  refine ce_getR dX7_about_11 fRX7_10 (hX).1 (hX).2.1.1 ?_
  refine ce_iload_n dX7_about_14 rfl ?_
  refine ce_cVp dX7_about_15 hX0_factOfAll kRX7_90 (m_X0_factOfAll8 (a + 1) (sK S) (sO S) (hX).2.2.1 hr.1 ok.1  ) rfl rfl ((hX).2.2.1).1 rfl (by decide) (Nat.le_of_ble_eq_true rfl) ?_
  refine ce_iret dX7_about_18 rfl rfl (by decide) (by decide) ?_
  exact ⟨rfl, rfl, rfl⟩
set_option maxHeartbeats 2000000 in
set_option maxRecDepth 20000 in
theorem m_X7_about_ok9 {σ : ce_S} {g : ce_D} (a : Nat) (b : Nat → Nat) (S : ks_S) (hX : ce_LX σ a b) (hr : ce_rX g a b S) (ok : ks_ok S) : ce_CT (ce_r 5) mX7_about [.ref (a), .int (nI (9))] σ g (ce_pv (nI (ce_sum (fun b => (sK S) 11 b - (sK S) 12 b) ((sK S) 0 2))) σ g) ce_no := by
  have hM := ok.1.me
  have hW := ok.1.wi
  have hB := ok.1.i7
  refine ce_enter (by decide) rfl (Nat.le_of_ble_eq_true rfl) (L := [some (.ref (a)), some (.int (nI (9)))]) rfl ?_
  refine ce_iload_n dX7_about_0 rfl ?_
  refine ce_iconst (v := nI (0)) dX7_about_1 (by decide) ?_
  refine ce_bipush (v := nI (9)) dX7_about_2 (by decide) ?_
  refine ce_cSp dX7_about_4 hX7_rangeFault kRX7_86 ((show kx_ran (nI (9)) (nI (0)).toInt (nI (9)).toInt = 0 by decide) ▸ m_X7_rangeFault (nI (9)) (nI (0)) (nI (9))) rfl rfl (by decide) (Nat.le_of_ble_eq_true rfl) ?_
  refine ce_cSq dX7_about_7 hX7_check kRX7_56 (m_X7_check0) rfl rfl (by decide) (Nat.le_of_ble_eq_true rfl) ?_
  refine ce_aload_n dX7_about_10 rfl ?_
  refine ce_getR dX7_about_11 fRX7_10 (hX).1 (hX).2.1.1 ?_
  refine ce_iload_n dX7_about_14 rfl ?_
  refine ce_cVp dX7_about_15 hX0_factOfAll kRX7_90 (m_X0_factOfAll9 (a + 1) (sK S) (sO S) (hX).2.2.1 hr.1 ok.1  ) rfl rfl ((hX).2.2.1).1 rfl (by decide) (Nat.le_of_ble_eq_true rfl) ?_
  refine ce_iret dX7_about_18 rfl rfl (by decide) (by decide) ?_
  exact ⟨rfl, rfl, rfl⟩
set_option maxHeartbeats 2000000 in
set_option maxRecDepth 20000 in
theorem m_X7_about_n2 {σ : ce_S} {g : ce_D} (a : Nat) (b : Nat → Nat) (S : ks_S) (hX : ce_LX σ a b) (hr : ce_rX g a b S) (ok : ks_ok S) (z : Int32) (f : Nat) (hf : kx_ran z (nI 0).toInt (nI 9).toInt = f) (h0 : f ≠ 0) (h3 : f ≤ 3) : ce_CT (ce_rx 2) mX7_about [.ref (a), .int (z)] σ g (fun _ _ _ => False) (kx_X f σ g) := by
  refine ce_enter (by decide) rfl (Nat.le_of_ble_eq_true rfl) (L := [some (.ref (a)), some (.int (z))]) rfl ?_
  refine ce_iload_n dX7_about_0 rfl ?_
  refine ce_iconst (v := nI (0)) dX7_about_1 (by decide) ?_
  refine ce_bipush (v := nI (9)) dX7_about_2 (by decide) ?_
  refine ce_cSp dX7_about_4 hX7_rangeFault kRX7_86 (hf ▸ m_X7_rangeFault z (nI (0)) (nI (9))) rfl rfl (by decide) (Nat.le_of_ble_eq_true rfl) ?_
  exact ce_callSX dX7_about_7 hX7_check kRX7_56 (m_X7_checkX f h0 h3) rfl rfl (by decide) (by decide) (by decide) (by decide) (fun v σ1 g1 h => h.elim) (fun E σ1 g1 h => ce_xout rfl (by decide) (by decide) h)
set_option maxHeartbeats 2000000 in
set_option maxRecDepth 20000 in
theorem m_X7_member_ok0 {σ : ce_S} {g : ce_D} (a : Nat) (b : Nat → Nat) (S : ks_S) (hX : ce_LX σ a b) (hr : ce_rX g a b S) (ok : ks_ok S) (m : Nat) (hm : m < sK S 0 0) : ce_CT (ce_r 5) mX7_member [.ref (a), .int (nI (m)), .int (nI (0))] σ g (ce_pv (nI ((sK S) 1 m)) σ g) ce_no := by
  have hM := ok.1.me
  have hW := ok.1.wi
  have hB := ok.1.i7
  refine ce_enter (by decide) rfl (Nat.le_of_ble_eq_true rfl) (L := [some (.ref (a)), some (.int (nI (m))), some (.int (nI (0)))]) rfl ?_
  refine ce_aload_n dX7_member_0 rfl ?_
  refine ce_getR dX7_member_1 fRX7_10 (hX).1 (hX).2.1.1 ?_
  refine ce_iload_n dX7_member_4 rfl ?_
  refine ce_cVp dX7_member_5 hX0_knowsMember kRX7_93 (m_X0_knowsMember (a + 1) (sK S) (sO S) (hX).2.2.1 hr.1 ok.1 (nI (m))) rfl rfl ((hX).2.2.1).1 rfl (by decide) (Nat.le_of_ble_eq_true rfl) ?_
  refine ce_if_eqB (tgt := 20) dX7_member_8 (by decide) rfl (fun c_8 => ?_) (fun c_8 => ?_)
  · exact absurd ((ce_in_nI (by omega)).mpr hm) c_8
  · refine ce_iload_n dX7_member_11 rfl ?_
    refine ce_iconst (v := nI (0)) dX7_member_12 (by decide) ?_
    refine ce_iconst (v := nI (3)) dX7_member_13 (by decide) ?_
    refine ce_cSp dX7_member_14 hX7_rangeFault kRX7_86 ((show kx_ran (nI (0)) (nI (0)).toInt (nI (3)).toInt = 0 by decide) ▸ m_X7_rangeFault (nI (0)) (nI (0)) (nI (3))) rfl rfl (by decide) (Nat.le_of_ble_eq_true rfl) ?_
    refine ce_goto (tgt := 21) dX7_member_17 (by decide) ?_
    refine ce_cSq dX7_member_21 hX7_check kRX7_56 (m_X7_check0) rfl rfl (by decide) (Nat.le_of_ble_eq_true rfl) ?_
    refine ce_aload_n dX7_member_24 rfl ?_
    refine ce_getR dX7_member_25 fRX7_10 (hX).1 (hX).2.1.1 ?_
    refine ce_iload_n dX7_member_28 rfl ?_
    refine ce_iload_n dX7_member_29 rfl ?_
    refine ce_cVp dX7_member_30 hX0_factOfMember kRX7_97 (m_X0_factOfMember0 (a + 1) (sK S) (sO S) (hX).2.2.1 hr.1 ok.1 m (by omega)) rfl rfl ((hX).2.2.1).1 rfl (by decide) (Nat.le_of_ble_eq_true rfl) ?_
    refine ce_iret dX7_member_33 rfl rfl (by decide) (by decide) ?_
    exact ⟨rfl, rfl, rfl⟩
set_option maxHeartbeats 2000000 in
set_option maxRecDepth 20000 in
theorem m_X7_member_ok1 {σ : ce_S} {g : ce_D} (a : Nat) (b : Nat → Nat) (S : ks_S) (hX : ce_LX σ a b) (hr : ce_rX g a b S) (ok : ks_ok S) (m : Nat) (hm : m < sK S 0 0) : ce_CT (ce_r 5) mX7_member [.ref (a), .int (nI (m)), .int (nI (1))] σ g (ce_pv ((sO S) m) σ g) ce_no := by
  have hM := ok.1.me
  have hW := ok.1.wi
  have hB := ok.1.i7
  refine ce_enter (by decide) rfl (Nat.le_of_ble_eq_true rfl) (L := [some (.ref (a)), some (.int (nI (m))), some (.int (nI (1)))]) rfl ?_
  refine ce_aload_n dX7_member_0 rfl ?_
  refine ce_getR dX7_member_1 fRX7_10 (hX).1 (hX).2.1.1 ?_
  refine ce_iload_n dX7_member_4 rfl ?_
  refine ce_cVp dX7_member_5 hX0_knowsMember kRX7_93 (m_X0_knowsMember (a + 1) (sK S) (sO S) (hX).2.2.1 hr.1 ok.1 (nI (m))) rfl rfl ((hX).2.2.1).1 rfl (by decide) (Nat.le_of_ble_eq_true rfl) ?_
  refine ce_if_eqB (tgt := 20) dX7_member_8 (by decide) rfl (fun c_8 => ?_) (fun c_8 => ?_)
  · exact absurd ((ce_in_nI (by omega)).mpr hm) c_8
  · refine ce_iload_n dX7_member_11 rfl ?_
    refine ce_iconst (v := nI (0)) dX7_member_12 (by decide) ?_
    refine ce_iconst (v := nI (3)) dX7_member_13 (by decide) ?_
    refine ce_cSp dX7_member_14 hX7_rangeFault kRX7_86 ((show kx_ran (nI (1)) (nI (0)).toInt (nI (3)).toInt = 0 by decide) ▸ m_X7_rangeFault (nI (1)) (nI (0)) (nI (3))) rfl rfl (by decide) (Nat.le_of_ble_eq_true rfl) ?_
    refine ce_goto (tgt := 21) dX7_member_17 (by decide) ?_
    refine ce_cSq dX7_member_21 hX7_check kRX7_56 (m_X7_check0) rfl rfl (by decide) (Nat.le_of_ble_eq_true rfl) ?_
    refine ce_aload_n dX7_member_24 rfl ?_
    refine ce_getR dX7_member_25 fRX7_10 (hX).1 (hX).2.1.1 ?_
    refine ce_iload_n dX7_member_28 rfl ?_
    refine ce_iload_n dX7_member_29 rfl ?_
    refine ce_cVp dX7_member_30 hX0_factOfMember kRX7_97 (m_X0_factOfMember1 (a + 1) (sK S) (sO S) (hX).2.2.1 hr.1 ok.1 m (by omega)) rfl rfl ((hX).2.2.1).1 rfl (by decide) (Nat.le_of_ble_eq_true rfl) ?_
    refine ce_iret dX7_member_33 rfl rfl (by decide) (by decide) ?_
    exact ⟨rfl, rfl, rfl⟩
set_option maxHeartbeats 2000000 in
set_option maxRecDepth 20000 in
theorem m_X7_member_ok2 {σ : ce_S} {g : ce_D} (a : Nat) (b : Nat → Nat) (S : ks_S) (hX : ce_LX σ a b) (hr : ce_rX g a b S) (ok : ks_ok S) (m : Nat) (hm : m < sK S 0 0) : ce_CT (ce_r 5) mX7_member [.ref (a), .int (nI (m)), .int (nI (2))] σ g (ce_pv (nI (ce_sum (fun w => (sK S) 9 (m * 6 + w)) 6)) σ g) ce_no := by
  have hM := ok.1.me
  have hW := ok.1.wi
  have hB := ok.1.i7
  refine ce_enter (by decide) rfl (Nat.le_of_ble_eq_true rfl) (L := [some (.ref (a)), some (.int (nI (m))), some (.int (nI (2)))]) rfl ?_
  refine ce_aload_n dX7_member_0 rfl ?_
  refine ce_getR dX7_member_1 fRX7_10 (hX).1 (hX).2.1.1 ?_
  refine ce_iload_n dX7_member_4 rfl ?_
  refine ce_cVp dX7_member_5 hX0_knowsMember kRX7_93 (m_X0_knowsMember (a + 1) (sK S) (sO S) (hX).2.2.1 hr.1 ok.1 (nI (m))) rfl rfl ((hX).2.2.1).1 rfl (by decide) (Nat.le_of_ble_eq_true rfl) ?_
  refine ce_if_eqB (tgt := 20) dX7_member_8 (by decide) rfl (fun c_8 => ?_) (fun c_8 => ?_)
  · exact absurd ((ce_in_nI (by omega)).mpr hm) c_8
  · refine ce_iload_n dX7_member_11 rfl ?_
    refine ce_iconst (v := nI (0)) dX7_member_12 (by decide) ?_
    refine ce_iconst (v := nI (3)) dX7_member_13 (by decide) ?_
    refine ce_cSp dX7_member_14 hX7_rangeFault kRX7_86 ((show kx_ran (nI (2)) (nI (0)).toInt (nI (3)).toInt = 0 by decide) ▸ m_X7_rangeFault (nI (2)) (nI (0)) (nI (3))) rfl rfl (by decide) (Nat.le_of_ble_eq_true rfl) ?_
    refine ce_goto (tgt := 21) dX7_member_17 (by decide) ?_
    refine ce_cSq dX7_member_21 hX7_check kRX7_56 (m_X7_check0) rfl rfl (by decide) (Nat.le_of_ble_eq_true rfl) ?_
    refine ce_aload_n dX7_member_24 rfl ?_
    refine ce_getR dX7_member_25 fRX7_10 (hX).1 (hX).2.1.1 ?_
    refine ce_iload_n dX7_member_28 rfl ?_
    refine ce_iload_n dX7_member_29 rfl ?_
    refine ce_cVp dX7_member_30 hX0_factOfMember kRX7_97 (m_X0_factOfMember2 (a + 1) (sK S) (sO S) (hX).2.2.1 hr.1 ok.1 m (by omega)) rfl rfl ((hX).2.2.1).1 rfl (by decide) (Nat.le_of_ble_eq_true rfl) ?_
    refine ce_iret dX7_member_33 rfl rfl (by decide) (by decide) ?_
    exact ⟨rfl, rfl, rfl⟩
set_option maxHeartbeats 2000000 in
set_option maxRecDepth 20000 in
theorem m_X7_member_ok3 {σ : ce_S} {g : ce_D} (a : Nat) (b : Nat → Nat) (S : ks_S) (hX : ce_LX σ a b) (hr : ce_rX g a b S) (ok : ks_ok S) (m : Nat) (hm : m < sK S 0 0) : ce_CT (ce_r 5) mX7_member [.ref (a), .int (nI (m)), .int (nI (3))] σ g (ce_pv (nI (ce_sum (fun w => (sK S) 10 (m * 6 + w)) 6)) σ g) ce_no := by
  have hM := ok.1.me
  have hW := ok.1.wi
  have hB := ok.1.i7
  refine ce_enter (by decide) rfl (Nat.le_of_ble_eq_true rfl) (L := [some (.ref (a)), some (.int (nI (m))), some (.int (nI (3)))]) rfl ?_
  refine ce_aload_n dX7_member_0 rfl ?_
  refine ce_getR dX7_member_1 fRX7_10 (hX).1 (hX).2.1.1 ?_
  refine ce_iload_n dX7_member_4 rfl ?_
  refine ce_cVp dX7_member_5 hX0_knowsMember kRX7_93 (m_X0_knowsMember (a + 1) (sK S) (sO S) (hX).2.2.1 hr.1 ok.1 (nI (m))) rfl rfl ((hX).2.2.1).1 rfl (by decide) (Nat.le_of_ble_eq_true rfl) ?_
  refine ce_if_eqB (tgt := 20) dX7_member_8 (by decide) rfl (fun c_8 => ?_) (fun c_8 => ?_)
  · exact absurd ((ce_in_nI (by omega)).mpr hm) c_8
  · refine ce_iload_n dX7_member_11 rfl ?_
    refine ce_iconst (v := nI (0)) dX7_member_12 (by decide) ?_
    refine ce_iconst (v := nI (3)) dX7_member_13 (by decide) ?_
    refine ce_cSp dX7_member_14 hX7_rangeFault kRX7_86 ((show kx_ran (nI (3)) (nI (0)).toInt (nI (3)).toInt = 0 by decide) ▸ m_X7_rangeFault (nI (3)) (nI (0)) (nI (3))) rfl rfl (by decide) (Nat.le_of_ble_eq_true rfl) ?_
    refine ce_goto (tgt := 21) dX7_member_17 (by decide) ?_
    refine ce_cSq dX7_member_21 hX7_check kRX7_56 (m_X7_check0) rfl rfl (by decide) (Nat.le_of_ble_eq_true rfl) ?_
    refine ce_aload_n dX7_member_24 rfl ?_
    refine ce_getR dX7_member_25 fRX7_10 (hX).1 (hX).2.1.1 ?_
    refine ce_iload_n dX7_member_28 rfl ?_
    refine ce_iload_n dX7_member_29 rfl ?_
    refine ce_cVp dX7_member_30 hX0_factOfMember kRX7_97 (m_X0_factOfMember3 (a + 1) (sK S) (sO S) (hX).2.2.1 hr.1 ok.1 m (by omega)) rfl rfl ((hX).2.2.1).1 rfl (by decide) (Nat.le_of_ble_eq_true rfl) ?_
    refine ce_iret dX7_member_33 rfl rfl (by decide) (by decide) ?_
    exact ⟨rfl, rfl, rfl⟩
set_option maxHeartbeats 2000000 in
set_option maxRecDepth 20000 in
theorem m_X7_member_n1 {σ : ce_S} {g : ce_D} (a : Nat) (b : Nat → Nat) (S : ks_S) (hX : ce_LX σ a b) (hr : ce_rX g a b S) (ok : ks_ok S) (x z : Int32) (hx : ¬ (ce_in x (sK S 0 0))) : ce_CT (ce_rx 2) mX7_member [.ref (a), .int (x), .int (z)] σ g (fun _ _ _ => False) (kx_X 1 σ g) := by
  refine ce_enter (by decide) rfl (Nat.le_of_ble_eq_true rfl) (L := [some (.ref (a)), some (.int (x)), some (.int (z))]) rfl ?_
  refine ce_aload_n dX7_member_0 rfl ?_
  refine ce_getR dX7_member_1 fRX7_10 (hX).1 (hX).2.1.1 ?_
  refine ce_iload_n dX7_member_4 rfl ?_
  refine ce_cVp dX7_member_5 hX0_knowsMember kRX7_93 (m_X0_knowsMember (a + 1) (sK S) (sO S) (hX).2.2.1 hr.1 ok.1 (x)) rfl rfl ((hX).2.2.1).1 rfl (by decide) (Nat.le_of_ble_eq_true rfl) ?_
  refine ce_if_eqB (tgt := 20) dX7_member_8 (by decide) rfl (fun c_8 => ?_) (fun c_8 => ?_)
  · refine ce_iconst (v := nI (1)) dX7_member_20 (by decide) ?_
    exact ce_callSX dX7_member_21 hX7_check kRX7_56 (m_X7_checkX 1 (by decide) (by decide)) rfl rfl (by decide) (by decide) (by decide) (by decide) (fun v σ1 g1 h => h.elim) (fun E σ1 g1 h => ce_xout rfl (by decide) (by decide) h)
  · exact absurd c_8 hx
set_option maxHeartbeats 2000000 in
set_option maxRecDepth 20000 in
theorem m_X7_member_n2 {σ : ce_S} {g : ce_D} (a : Nat) (b : Nat → Nat) (S : ks_S) (hX : ce_LX σ a b) (hr : ce_rX g a b S) (ok : ks_ok S) (x : Int32) (z : Int32) (hx : ce_in x (sK S 0 0)) (f : Nat) (hf : kx_ran z (nI 0).toInt (nI 3).toInt = f) (h0 : f ≠ 0) (h3 : f ≤ 3) : ce_CT (ce_rx 2) mX7_member [.ref (a), .int (x), .int (z)] σ g (fun _ _ _ => False) (kx_X f σ g) := by
  refine ce_enter (by decide) rfl (Nat.le_of_ble_eq_true rfl) (L := [some (.ref (a)), some (.int (x)), some (.int (z))]) rfl ?_
  refine ce_aload_n dX7_member_0 rfl ?_
  refine ce_getR dX7_member_1 fRX7_10 (hX).1 (hX).2.1.1 ?_
  refine ce_iload_n dX7_member_4 rfl ?_
  refine ce_cVp dX7_member_5 hX0_knowsMember kRX7_93 (m_X0_knowsMember (a + 1) (sK S) (sO S) (hX).2.2.1 hr.1 ok.1 (x)) rfl rfl ((hX).2.2.1).1 rfl (by decide) (Nat.le_of_ble_eq_true rfl) ?_
  refine ce_if_eqB (tgt := 20) dX7_member_8 (by decide) rfl (fun c_8 => ?_) (fun c_8 => ?_)
  · exact absurd hx c_8
  · refine ce_iload_n dX7_member_11 rfl ?_
    refine ce_iconst (v := nI (0)) dX7_member_12 (by decide) ?_
    refine ce_iconst (v := nI (3)) dX7_member_13 (by decide) ?_
    refine ce_cSp dX7_member_14 hX7_rangeFault kRX7_86 (hf ▸ m_X7_rangeFault z (nI (0)) (nI (3))) rfl rfl (by decide) (Nat.le_of_ble_eq_true rfl) ?_
    refine ce_goto (tgt := 21) dX7_member_17 (by decide) ?_
    exact ce_callSX dX7_member_21 hX7_check kRX7_56 (m_X7_checkX f h0 h3) rfl rfl (by decide) (by decide) (by decide) (by decide) (fun v σ1 g1 h => h.elim) (fun E σ1 g1 h => ce_xout rfl (by decide) (by decide) h)
set_option maxHeartbeats 2000000 in
set_option maxRecDepth 20000 in
theorem m_X7_wine_ok0 {σ : ce_S} {g : ce_D} (a : Nat) (b : Nat → Nat) (S : ks_S) (hX : ce_LX σ a b) (hr : ce_rX g a b S) (ok : ks_ok S) (w : Nat) (hw : w < sK S 0 1) : ce_CT (ce_r 5) mX7_wine [.ref (a), .int (nI (w)), .int (nI (0))] σ g (ce_pv (nI ((sK S) 2 w)) σ g) ce_no := by
  have hM := ok.1.me
  have hW := ok.1.wi
  have hB := ok.1.i7
  refine ce_enter (by decide) rfl (Nat.le_of_ble_eq_true rfl) (L := [some (.ref (a)), some (.int (nI (w))), some (.int (nI (0)))]) rfl ?_
  refine ce_aload_n dX7_wine_0 rfl ?_
  refine ce_getR dX7_wine_1 fRX7_10 (hX).1 (hX).2.1.1 ?_
  refine ce_iload_n dX7_wine_4 rfl ?_
  refine ce_cVp dX7_wine_5 hX0_knowsWine kRX7_101 (m_X0_knowsWine (a + 1) (sK S) (sO S) (hX).2.2.1 hr.1 ok.1 (nI (w))) rfl rfl ((hX).2.2.1).1 rfl (by decide) (Nat.le_of_ble_eq_true rfl) ?_
  refine ce_if_eqB (tgt := 21) dX7_wine_8 (by decide) rfl (fun c_8 => ?_) (fun c_8 => ?_)
  · exact absurd ((ce_in_nI (by omega)).mpr hw) c_8
  · refine ce_iload_n dX7_wine_11 rfl ?_
    refine ce_iconst (v := nI (0)) dX7_wine_12 (by decide) ?_
    refine ce_bipush (v := nI (8)) dX7_wine_13 (by decide) ?_
    refine ce_cSp dX7_wine_15 hX7_rangeFault kRX7_86 ((show kx_ran (nI (0)) (nI (0)).toInt (nI (8)).toInt = 0 by decide) ▸ m_X7_rangeFault (nI (0)) (nI (0)) (nI (8))) rfl rfl (by decide) (Nat.le_of_ble_eq_true rfl) ?_
    refine ce_goto (tgt := 22) dX7_wine_18 (by decide) ?_
    refine ce_cSq dX7_wine_22 hX7_check kRX7_56 (m_X7_check0) rfl rfl (by decide) (Nat.le_of_ble_eq_true rfl) ?_
    refine ce_aload_n dX7_wine_25 rfl ?_
    refine ce_getR dX7_wine_26 fRX7_10 (hX).1 (hX).2.1.1 ?_
    refine ce_iload_n dX7_wine_29 rfl ?_
    refine ce_iload_n dX7_wine_30 rfl ?_
    refine ce_cVp dX7_wine_31 hX0_factOfWine kRX7_104 (m_X0_factOfWine0 (a + 1) (sK S) (sO S) (hX).2.2.1 hr.1 ok.1 w (by omega)) rfl rfl ((hX).2.2.1).1 rfl (by decide) (Nat.le_of_ble_eq_true rfl) ?_
    refine ce_iret dX7_wine_34 rfl rfl (by decide) (by decide) ?_
    exact ⟨rfl, rfl, rfl⟩
set_option maxHeartbeats 2000000 in
set_option maxRecDepth 20000 in
theorem m_X7_wine_ok1 {σ : ce_S} {g : ce_D} (a : Nat) (b : Nat → Nat) (S : ks_S) (hX : ce_LX σ a b) (hr : ce_rX g a b S) (ok : ks_ok S) (w : Nat) (hw : w < sK S 0 1) : ce_CT (ce_r 5) mX7_wine [.ref (a), .int (nI (w)), .int (nI (1))] σ g (ce_pv (nI ((sK S) 3 w)) σ g) ce_no := by
  have hM := ok.1.me
  have hW := ok.1.wi
  have hB := ok.1.i7
  refine ce_enter (by decide) rfl (Nat.le_of_ble_eq_true rfl) (L := [some (.ref (a)), some (.int (nI (w))), some (.int (nI (1)))]) rfl ?_
  refine ce_aload_n dX7_wine_0 rfl ?_
  refine ce_getR dX7_wine_1 fRX7_10 (hX).1 (hX).2.1.1 ?_
  refine ce_iload_n dX7_wine_4 rfl ?_
  refine ce_cVp dX7_wine_5 hX0_knowsWine kRX7_101 (m_X0_knowsWine (a + 1) (sK S) (sO S) (hX).2.2.1 hr.1 ok.1 (nI (w))) rfl rfl ((hX).2.2.1).1 rfl (by decide) (Nat.le_of_ble_eq_true rfl) ?_
  refine ce_if_eqB (tgt := 21) dX7_wine_8 (by decide) rfl (fun c_8 => ?_) (fun c_8 => ?_)
  · exact absurd ((ce_in_nI (by omega)).mpr hw) c_8
  · refine ce_iload_n dX7_wine_11 rfl ?_
    refine ce_iconst (v := nI (0)) dX7_wine_12 (by decide) ?_
    refine ce_bipush (v := nI (8)) dX7_wine_13 (by decide) ?_
    refine ce_cSp dX7_wine_15 hX7_rangeFault kRX7_86 ((show kx_ran (nI (1)) (nI (0)).toInt (nI (8)).toInt = 0 by decide) ▸ m_X7_rangeFault (nI (1)) (nI (0)) (nI (8))) rfl rfl (by decide) (Nat.le_of_ble_eq_true rfl) ?_
    refine ce_goto (tgt := 22) dX7_wine_18 (by decide) ?_
    refine ce_cSq dX7_wine_22 hX7_check kRX7_56 (m_X7_check0) rfl rfl (by decide) (Nat.le_of_ble_eq_true rfl) ?_
    refine ce_aload_n dX7_wine_25 rfl ?_
    refine ce_getR dX7_wine_26 fRX7_10 (hX).1 (hX).2.1.1 ?_
    refine ce_iload_n dX7_wine_29 rfl ?_
    refine ce_iload_n dX7_wine_30 rfl ?_
    refine ce_cVp dX7_wine_31 hX0_factOfWine kRX7_104 (m_X0_factOfWine1 (a + 1) (sK S) (sO S) (hX).2.2.1 hr.1 ok.1 w (by omega)) rfl rfl ((hX).2.2.1).1 rfl (by decide) (Nat.le_of_ble_eq_true rfl) ?_
    refine ce_iret dX7_wine_34 rfl rfl (by decide) (by decide) ?_
    exact ⟨rfl, rfl, rfl⟩
set_option maxHeartbeats 2000000 in
set_option maxRecDepth 20000 in
theorem m_X7_wine_ok2 {σ : ce_S} {g : ce_D} (a : Nat) (b : Nat → Nat) (S : ks_S) (hX : ce_LX σ a b) (hr : ce_rX g a b S) (ok : ks_ok S) (w : Nat) (hw : w < sK S 0 1) : ce_CT (ce_r 5) mX7_wine [.ref (a), .int (nI (w)), .int (nI (2))] σ g (ce_pv (nI ((sK S) 4 w)) σ g) ce_no := by
  have hM := ok.1.me
  have hW := ok.1.wi
  have hB := ok.1.i7
  refine ce_enter (by decide) rfl (Nat.le_of_ble_eq_true rfl) (L := [some (.ref (a)), some (.int (nI (w))), some (.int (nI (2)))]) rfl ?_
  refine ce_aload_n dX7_wine_0 rfl ?_
  refine ce_getR dX7_wine_1 fRX7_10 (hX).1 (hX).2.1.1 ?_
  refine ce_iload_n dX7_wine_4 rfl ?_
  refine ce_cVp dX7_wine_5 hX0_knowsWine kRX7_101 (m_X0_knowsWine (a + 1) (sK S) (sO S) (hX).2.2.1 hr.1 ok.1 (nI (w))) rfl rfl ((hX).2.2.1).1 rfl (by decide) (Nat.le_of_ble_eq_true rfl) ?_
  refine ce_if_eqB (tgt := 21) dX7_wine_8 (by decide) rfl (fun c_8 => ?_) (fun c_8 => ?_)
  · exact absurd ((ce_in_nI (by omega)).mpr hw) c_8
  · refine ce_iload_n dX7_wine_11 rfl ?_
    refine ce_iconst (v := nI (0)) dX7_wine_12 (by decide) ?_
    refine ce_bipush (v := nI (8)) dX7_wine_13 (by decide) ?_
    refine ce_cSp dX7_wine_15 hX7_rangeFault kRX7_86 ((show kx_ran (nI (2)) (nI (0)).toInt (nI (8)).toInt = 0 by decide) ▸ m_X7_rangeFault (nI (2)) (nI (0)) (nI (8))) rfl rfl (by decide) (Nat.le_of_ble_eq_true rfl) ?_
    refine ce_goto (tgt := 22) dX7_wine_18 (by decide) ?_
    refine ce_cSq dX7_wine_22 hX7_check kRX7_56 (m_X7_check0) rfl rfl (by decide) (Nat.le_of_ble_eq_true rfl) ?_
    refine ce_aload_n dX7_wine_25 rfl ?_
    refine ce_getR dX7_wine_26 fRX7_10 (hX).1 (hX).2.1.1 ?_
    refine ce_iload_n dX7_wine_29 rfl ?_
    refine ce_iload_n dX7_wine_30 rfl ?_
    refine ce_cVp dX7_wine_31 hX0_factOfWine kRX7_104 (m_X0_factOfWine2 (a + 1) (sK S) (sO S) (hX).2.2.1 hr.1 ok.1 w (by omega)) rfl rfl ((hX).2.2.1).1 rfl (by decide) (Nat.le_of_ble_eq_true rfl) ?_
    refine ce_iret dX7_wine_34 rfl rfl (by decide) (by decide) ?_
    exact ⟨rfl, rfl, rfl⟩
set_option maxHeartbeats 2000000 in
set_option maxRecDepth 20000 in
theorem m_X7_wine_ok3 {σ : ce_S} {g : ce_D} (a : Nat) (b : Nat → Nat) (S : ks_S) (hX : ce_LX σ a b) (hr : ce_rX g a b S) (ok : ks_ok S) (w : Nat) (hw : w < sK S 0 1) : ce_CT (ce_r 5) mX7_wine [.ref (a), .int (nI (w)), .int (nI (3))] σ g (ce_pv (nI ((sK S) 5 w)) σ g) ce_no := by
  have hM := ok.1.me
  have hW := ok.1.wi
  have hB := ok.1.i7
  refine ce_enter (by decide) rfl (Nat.le_of_ble_eq_true rfl) (L := [some (.ref (a)), some (.int (nI (w))), some (.int (nI (3)))]) rfl ?_
  refine ce_aload_n dX7_wine_0 rfl ?_
  refine ce_getR dX7_wine_1 fRX7_10 (hX).1 (hX).2.1.1 ?_
  refine ce_iload_n dX7_wine_4 rfl ?_
  refine ce_cVp dX7_wine_5 hX0_knowsWine kRX7_101 (m_X0_knowsWine (a + 1) (sK S) (sO S) (hX).2.2.1 hr.1 ok.1 (nI (w))) rfl rfl ((hX).2.2.1).1 rfl (by decide) (Nat.le_of_ble_eq_true rfl) ?_
  refine ce_if_eqB (tgt := 21) dX7_wine_8 (by decide) rfl (fun c_8 => ?_) (fun c_8 => ?_)
  · exact absurd ((ce_in_nI (by omega)).mpr hw) c_8
  · refine ce_iload_n dX7_wine_11 rfl ?_
    refine ce_iconst (v := nI (0)) dX7_wine_12 (by decide) ?_
    refine ce_bipush (v := nI (8)) dX7_wine_13 (by decide) ?_
    refine ce_cSp dX7_wine_15 hX7_rangeFault kRX7_86 ((show kx_ran (nI (3)) (nI (0)).toInt (nI (8)).toInt = 0 by decide) ▸ m_X7_rangeFault (nI (3)) (nI (0)) (nI (8))) rfl rfl (by decide) (Nat.le_of_ble_eq_true rfl) ?_
    refine ce_goto (tgt := 22) dX7_wine_18 (by decide) ?_
    refine ce_cSq dX7_wine_22 hX7_check kRX7_56 (m_X7_check0) rfl rfl (by decide) (Nat.le_of_ble_eq_true rfl) ?_
    refine ce_aload_n dX7_wine_25 rfl ?_
    refine ce_getR dX7_wine_26 fRX7_10 (hX).1 (hX).2.1.1 ?_
    refine ce_iload_n dX7_wine_29 rfl ?_
    refine ce_iload_n dX7_wine_30 rfl ?_
    refine ce_cVp dX7_wine_31 hX0_factOfWine kRX7_104 (m_X0_factOfWine3 (a + 1) (sK S) (sO S) (hX).2.2.1 hr.1 ok.1 w (by omega)) rfl rfl ((hX).2.2.1).1 rfl (by decide) (Nat.le_of_ble_eq_true rfl) ?_
    refine ce_iret dX7_wine_34 rfl rfl (by decide) (by decide) ?_
    exact ⟨rfl, rfl, rfl⟩
set_option maxHeartbeats 2000000 in
set_option maxRecDepth 20000 in
theorem m_X7_wine_ok4 {σ : ce_S} {g : ce_D} (a : Nat) (b : Nat → Nat) (S : ks_S) (hX : ce_LX σ a b) (hr : ce_rX g a b S) (ok : ks_ok S) (w : Nat) (hw : w < sK S 0 1) : ce_CT (ce_r 5) mX7_wine [.ref (a), .int (nI (w)), .int (nI (4))] σ g (ce_pv (nI (kv_sum (sK S) 9 w)) σ g) ce_no := by
  have hM := ok.1.me
  have hW := ok.1.wi
  have hB := ok.1.i7
  refine ce_enter (by decide) rfl (Nat.le_of_ble_eq_true rfl) (L := [some (.ref (a)), some (.int (nI (w))), some (.int (nI (4)))]) rfl ?_
  refine ce_aload_n dX7_wine_0 rfl ?_
  refine ce_getR dX7_wine_1 fRX7_10 (hX).1 (hX).2.1.1 ?_
  refine ce_iload_n dX7_wine_4 rfl ?_
  refine ce_cVp dX7_wine_5 hX0_knowsWine kRX7_101 (m_X0_knowsWine (a + 1) (sK S) (sO S) (hX).2.2.1 hr.1 ok.1 (nI (w))) rfl rfl ((hX).2.2.1).1 rfl (by decide) (Nat.le_of_ble_eq_true rfl) ?_
  refine ce_if_eqB (tgt := 21) dX7_wine_8 (by decide) rfl (fun c_8 => ?_) (fun c_8 => ?_)
  · exact absurd ((ce_in_nI (by omega)).mpr hw) c_8
  · refine ce_iload_n dX7_wine_11 rfl ?_
    refine ce_iconst (v := nI (0)) dX7_wine_12 (by decide) ?_
    refine ce_bipush (v := nI (8)) dX7_wine_13 (by decide) ?_
    refine ce_cSp dX7_wine_15 hX7_rangeFault kRX7_86 ((show kx_ran (nI (4)) (nI (0)).toInt (nI (8)).toInt = 0 by decide) ▸ m_X7_rangeFault (nI (4)) (nI (0)) (nI (8))) rfl rfl (by decide) (Nat.le_of_ble_eq_true rfl) ?_
    refine ce_goto (tgt := 22) dX7_wine_18 (by decide) ?_
    refine ce_cSq dX7_wine_22 hX7_check kRX7_56 (m_X7_check0) rfl rfl (by decide) (Nat.le_of_ble_eq_true rfl) ?_
    refine ce_aload_n dX7_wine_25 rfl ?_
    refine ce_getR dX7_wine_26 fRX7_10 (hX).1 (hX).2.1.1 ?_
    refine ce_iload_n dX7_wine_29 rfl ?_
    refine ce_iload_n dX7_wine_30 rfl ?_
    refine ce_cVp dX7_wine_31 hX0_factOfWine kRX7_104 (m_X0_factOfWine4 (a + 1) (sK S) (sO S) (hX).2.2.1 hr.1 ok.1 w (by omega)) rfl rfl ((hX).2.2.1).1 rfl (by decide) (Nat.le_of_ble_eq_true rfl) ?_
    refine ce_iret dX7_wine_34 rfl rfl (by decide) (by decide) ?_
    exact ⟨rfl, rfl, rfl⟩
set_option maxHeartbeats 2000000 in
set_option maxRecDepth 20000 in
theorem m_X7_wine_ok5 {σ : ce_S} {g : ce_D} (a : Nat) (b : Nat → Nat) (S : ks_S) (hX : ce_LX σ a b) (hr : ce_rX g a b S) (ok : ks_ok S) (w : Nat) (hw : w < sK S 0 1) : ce_CT (ce_r 5) mX7_wine [.ref (a), .int (nI (w)), .int (nI (5))] σ g (ce_pv (nI (kv_sum (sK S) 10 w)) σ g) ce_no := by
  have hM := ok.1.me
  have hW := ok.1.wi
  have hB := ok.1.i7
  refine ce_enter (by decide) rfl (Nat.le_of_ble_eq_true rfl) (L := [some (.ref (a)), some (.int (nI (w))), some (.int (nI (5)))]) rfl ?_
  refine ce_aload_n dX7_wine_0 rfl ?_
  refine ce_getR dX7_wine_1 fRX7_10 (hX).1 (hX).2.1.1 ?_
  refine ce_iload_n dX7_wine_4 rfl ?_
  refine ce_cVp dX7_wine_5 hX0_knowsWine kRX7_101 (m_X0_knowsWine (a + 1) (sK S) (sO S) (hX).2.2.1 hr.1 ok.1 (nI (w))) rfl rfl ((hX).2.2.1).1 rfl (by decide) (Nat.le_of_ble_eq_true rfl) ?_
  refine ce_if_eqB (tgt := 21) dX7_wine_8 (by decide) rfl (fun c_8 => ?_) (fun c_8 => ?_)
  · exact absurd ((ce_in_nI (by omega)).mpr hw) c_8
  · refine ce_iload_n dX7_wine_11 rfl ?_
    refine ce_iconst (v := nI (0)) dX7_wine_12 (by decide) ?_
    refine ce_bipush (v := nI (8)) dX7_wine_13 (by decide) ?_
    refine ce_cSp dX7_wine_15 hX7_rangeFault kRX7_86 ((show kx_ran (nI (5)) (nI (0)).toInt (nI (8)).toInt = 0 by decide) ▸ m_X7_rangeFault (nI (5)) (nI (0)) (nI (8))) rfl rfl (by decide) (Nat.le_of_ble_eq_true rfl) ?_
    refine ce_goto (tgt := 22) dX7_wine_18 (by decide) ?_
    refine ce_cSq dX7_wine_22 hX7_check kRX7_56 (m_X7_check0) rfl rfl (by decide) (Nat.le_of_ble_eq_true rfl) ?_
    refine ce_aload_n dX7_wine_25 rfl ?_
    refine ce_getR dX7_wine_26 fRX7_10 (hX).1 (hX).2.1.1 ?_
    refine ce_iload_n dX7_wine_29 rfl ?_
    refine ce_iload_n dX7_wine_30 rfl ?_
    refine ce_cVp dX7_wine_31 hX0_factOfWine kRX7_104 (m_X0_factOfWine5 (a + 1) (sK S) (sO S) (hX).2.2.1 hr.1 ok.1 w (by omega)) rfl rfl ((hX).2.2.1).1 rfl (by decide) (Nat.le_of_ble_eq_true rfl) ?_
    refine ce_iret dX7_wine_34 rfl rfl (by decide) (by decide) ?_
    exact ⟨rfl, rfl, rfl⟩
set_option maxHeartbeats 2000000 in
set_option maxRecDepth 20000 in
theorem m_X7_wine_ok6 {σ : ce_S} {g : ce_D} (a : Nat) (b : Nat → Nat) (S : ks_S) (hX : ce_LX σ a b) (hr : ce_rX g a b S) (ok : ks_ok S) (w : Nat) (hw : w < sK S 0 1) : ce_CT (ce_r 5) mX7_wine [.ref (a), .int (nI (w)), .int (nI (6))] σ g (ce_pv (nI ((sK S) 6 w)) σ g) ce_no := by
  have hM := ok.1.me
  have hW := ok.1.wi
  have hB := ok.1.i7
  refine ce_enter (by decide) rfl (Nat.le_of_ble_eq_true rfl) (L := [some (.ref (a)), some (.int (nI (w))), some (.int (nI (6)))]) rfl ?_
  refine ce_aload_n dX7_wine_0 rfl ?_
  refine ce_getR dX7_wine_1 fRX7_10 (hX).1 (hX).2.1.1 ?_
  refine ce_iload_n dX7_wine_4 rfl ?_
  refine ce_cVp dX7_wine_5 hX0_knowsWine kRX7_101 (m_X0_knowsWine (a + 1) (sK S) (sO S) (hX).2.2.1 hr.1 ok.1 (nI (w))) rfl rfl ((hX).2.2.1).1 rfl (by decide) (Nat.le_of_ble_eq_true rfl) ?_
  refine ce_if_eqB (tgt := 21) dX7_wine_8 (by decide) rfl (fun c_8 => ?_) (fun c_8 => ?_)
  · exact absurd ((ce_in_nI (by omega)).mpr hw) c_8
  · refine ce_iload_n dX7_wine_11 rfl ?_
    refine ce_iconst (v := nI (0)) dX7_wine_12 (by decide) ?_
    refine ce_bipush (v := nI (8)) dX7_wine_13 (by decide) ?_
    refine ce_cSp dX7_wine_15 hX7_rangeFault kRX7_86 ((show kx_ran (nI (6)) (nI (0)).toInt (nI (8)).toInt = 0 by decide) ▸ m_X7_rangeFault (nI (6)) (nI (0)) (nI (8))) rfl rfl (by decide) (Nat.le_of_ble_eq_true rfl) ?_
    refine ce_goto (tgt := 22) dX7_wine_18 (by decide) ?_
    refine ce_cSq dX7_wine_22 hX7_check kRX7_56 (m_X7_check0) rfl rfl (by decide) (Nat.le_of_ble_eq_true rfl) ?_
    refine ce_aload_n dX7_wine_25 rfl ?_
    refine ce_getR dX7_wine_26 fRX7_10 (hX).1 (hX).2.1.1 ?_
    refine ce_iload_n dX7_wine_29 rfl ?_
    refine ce_iload_n dX7_wine_30 rfl ?_
    refine ce_cVp dX7_wine_31 hX0_factOfWine kRX7_104 (m_X0_factOfWine6 (a + 1) (sK S) (sO S) (hX).2.2.1 hr.1 ok.1 w (by omega)) rfl rfl ((hX).2.2.1).1 rfl (by decide) (Nat.le_of_ble_eq_true rfl) ?_
    refine ce_iret dX7_wine_34 rfl rfl (by decide) (by decide) ?_
    exact ⟨rfl, rfl, rfl⟩
set_option maxHeartbeats 2000000 in
set_option maxRecDepth 20000 in
theorem m_X7_wine_ok7 {σ : ce_S} {g : ce_D} (a : Nat) (b : Nat → Nat) (S : ks_S) (hX : ce_LX σ a b) (hr : ce_rX g a b S) (ok : ks_ok S) (w : Nat) (hw : w < sK S 0 1) : ce_CT (ce_r 5) mX7_wine [.ref (a), .int (nI (w)), .int (nI (7))] σ g (ce_pv (nI (kv_sum (sK S) 8 w)) σ g) ce_no := by
  have hM := ok.1.me
  have hW := ok.1.wi
  have hB := ok.1.i7
  refine ce_enter (by decide) rfl (Nat.le_of_ble_eq_true rfl) (L := [some (.ref (a)), some (.int (nI (w))), some (.int (nI (7)))]) rfl ?_
  refine ce_aload_n dX7_wine_0 rfl ?_
  refine ce_getR dX7_wine_1 fRX7_10 (hX).1 (hX).2.1.1 ?_
  refine ce_iload_n dX7_wine_4 rfl ?_
  refine ce_cVp dX7_wine_5 hX0_knowsWine kRX7_101 (m_X0_knowsWine (a + 1) (sK S) (sO S) (hX).2.2.1 hr.1 ok.1 (nI (w))) rfl rfl ((hX).2.2.1).1 rfl (by decide) (Nat.le_of_ble_eq_true rfl) ?_
  refine ce_if_eqB (tgt := 21) dX7_wine_8 (by decide) rfl (fun c_8 => ?_) (fun c_8 => ?_)
  · exact absurd ((ce_in_nI (by omega)).mpr hw) c_8
  · refine ce_iload_n dX7_wine_11 rfl ?_
    refine ce_iconst (v := nI (0)) dX7_wine_12 (by decide) ?_
    refine ce_bipush (v := nI (8)) dX7_wine_13 (by decide) ?_
    refine ce_cSp dX7_wine_15 hX7_rangeFault kRX7_86 ((show kx_ran (nI (7)) (nI (0)).toInt (nI (8)).toInt = 0 by decide) ▸ m_X7_rangeFault (nI (7)) (nI (0)) (nI (8))) rfl rfl (by decide) (Nat.le_of_ble_eq_true rfl) ?_
    refine ce_goto (tgt := 22) dX7_wine_18 (by decide) ?_
    refine ce_cSq dX7_wine_22 hX7_check kRX7_56 (m_X7_check0) rfl rfl (by decide) (Nat.le_of_ble_eq_true rfl) ?_
    refine ce_aload_n dX7_wine_25 rfl ?_
    refine ce_getR dX7_wine_26 fRX7_10 (hX).1 (hX).2.1.1 ?_
    refine ce_iload_n dX7_wine_29 rfl ?_
    refine ce_iload_n dX7_wine_30 rfl ?_
    refine ce_cVp dX7_wine_31 hX0_factOfWine kRX7_104 (m_X0_factOfWine7 (a + 1) (sK S) (sO S) (hX).2.2.1 hr.1 ok.1 w (by omega)) rfl rfl ((hX).2.2.1).1 rfl (by decide) (Nat.le_of_ble_eq_true rfl) ?_
    refine ce_iret dX7_wine_34 rfl rfl (by decide) (by decide) ?_
    exact ⟨rfl, rfl, rfl⟩
set_option maxHeartbeats 2000000 in
set_option maxRecDepth 20000 in
theorem m_X7_wine_ok8 {σ : ce_S} {g : ce_D} (a : Nat) (b : Nat → Nat) (S : ks_S) (hX : ce_LX σ a b) (hr : ce_rX g a b S) (ok : ks_ok S) (w : Nat) (hw : w < sK S 0 1) : ce_CT (ce_r 5) mX7_wine [.ref (a), .int (nI (w)), .int (nI (8))] σ g (ce_pv (nI (kv_sum (sK S) 7 w)) σ g) ce_no := by
  have hM := ok.1.me
  have hW := ok.1.wi
  have hB := ok.1.i7
  refine ce_enter (by decide) rfl (Nat.le_of_ble_eq_true rfl) (L := [some (.ref (a)), some (.int (nI (w))), some (.int (nI (8)))]) rfl ?_
  refine ce_aload_n dX7_wine_0 rfl ?_
  refine ce_getR dX7_wine_1 fRX7_10 (hX).1 (hX).2.1.1 ?_
  refine ce_iload_n dX7_wine_4 rfl ?_
  refine ce_cVp dX7_wine_5 hX0_knowsWine kRX7_101 (m_X0_knowsWine (a + 1) (sK S) (sO S) (hX).2.2.1 hr.1 ok.1 (nI (w))) rfl rfl ((hX).2.2.1).1 rfl (by decide) (Nat.le_of_ble_eq_true rfl) ?_
  refine ce_if_eqB (tgt := 21) dX7_wine_8 (by decide) rfl (fun c_8 => ?_) (fun c_8 => ?_)
  · exact absurd ((ce_in_nI (by omega)).mpr hw) c_8
  · refine ce_iload_n dX7_wine_11 rfl ?_
    refine ce_iconst (v := nI (0)) dX7_wine_12 (by decide) ?_
    refine ce_bipush (v := nI (8)) dX7_wine_13 (by decide) ?_
    refine ce_cSp dX7_wine_15 hX7_rangeFault kRX7_86 ((show kx_ran (nI (8)) (nI (0)).toInt (nI (8)).toInt = 0 by decide) ▸ m_X7_rangeFault (nI (8)) (nI (0)) (nI (8))) rfl rfl (by decide) (Nat.le_of_ble_eq_true rfl) ?_
    refine ce_goto (tgt := 22) dX7_wine_18 (by decide) ?_
    refine ce_cSq dX7_wine_22 hX7_check kRX7_56 (m_X7_check0) rfl rfl (by decide) (Nat.le_of_ble_eq_true rfl) ?_
    refine ce_aload_n dX7_wine_25 rfl ?_
    refine ce_getR dX7_wine_26 fRX7_10 (hX).1 (hX).2.1.1 ?_
    refine ce_iload_n dX7_wine_29 rfl ?_
    refine ce_iload_n dX7_wine_30 rfl ?_
    refine ce_cVp dX7_wine_31 hX0_factOfWine kRX7_104 (m_X0_factOfWine8 (a + 1) (sK S) (sO S) (hX).2.2.1 hr.1 ok.1 w (by omega)) rfl rfl ((hX).2.2.1).1 rfl (by decide) (Nat.le_of_ble_eq_true rfl) ?_
    refine ce_iret dX7_wine_34 rfl rfl (by decide) (by decide) ?_
    exact ⟨rfl, rfl, rfl⟩
set_option maxHeartbeats 2000000 in
set_option maxRecDepth 20000 in
theorem m_X7_wine_n1 {σ : ce_S} {g : ce_D} (a : Nat) (b : Nat → Nat) (S : ks_S) (hX : ce_LX σ a b) (hr : ce_rX g a b S) (ok : ks_ok S) (x z : Int32) (hx : ¬ (ce_in x (sK S 0 1))) : ce_CT (ce_rx 2) mX7_wine [.ref (a), .int (x), .int (z)] σ g (fun _ _ _ => False) (kx_X 1 σ g) := by
  refine ce_enter (by decide) rfl (Nat.le_of_ble_eq_true rfl) (L := [some (.ref (a)), some (.int (x)), some (.int (z))]) rfl ?_
  refine ce_aload_n dX7_wine_0 rfl ?_
  refine ce_getR dX7_wine_1 fRX7_10 (hX).1 (hX).2.1.1 ?_
  refine ce_iload_n dX7_wine_4 rfl ?_
  refine ce_cVp dX7_wine_5 hX0_knowsWine kRX7_101 (m_X0_knowsWine (a + 1) (sK S) (sO S) (hX).2.2.1 hr.1 ok.1 (x)) rfl rfl ((hX).2.2.1).1 rfl (by decide) (Nat.le_of_ble_eq_true rfl) ?_
  refine ce_if_eqB (tgt := 21) dX7_wine_8 (by decide) rfl (fun c_8 => ?_) (fun c_8 => ?_)
  · refine ce_iconst (v := nI (1)) dX7_wine_21 (by decide) ?_
    exact ce_callSX dX7_wine_22 hX7_check kRX7_56 (m_X7_checkX 1 (by decide) (by decide)) rfl rfl (by decide) (by decide) (by decide) (by decide) (fun v σ1 g1 h => h.elim) (fun E σ1 g1 h => ce_xout rfl (by decide) (by decide) h)
  · exact absurd c_8 hx
set_option maxHeartbeats 2000000 in
set_option maxRecDepth 20000 in
theorem m_X7_wine_n2 {σ : ce_S} {g : ce_D} (a : Nat) (b : Nat → Nat) (S : ks_S) (hX : ce_LX σ a b) (hr : ce_rX g a b S) (ok : ks_ok S) (x : Int32) (z : Int32) (hx : ce_in x (sK S 0 1)) (f : Nat) (hf : kx_ran z (nI 0).toInt (nI 8).toInt = f) (h0 : f ≠ 0) (h3 : f ≤ 3) : ce_CT (ce_rx 2) mX7_wine [.ref (a), .int (x), .int (z)] σ g (fun _ _ _ => False) (kx_X f σ g) := by
  refine ce_enter (by decide) rfl (Nat.le_of_ble_eq_true rfl) (L := [some (.ref (a)), some (.int (x)), some (.int (z))]) rfl ?_
  refine ce_aload_n dX7_wine_0 rfl ?_
  refine ce_getR dX7_wine_1 fRX7_10 (hX).1 (hX).2.1.1 ?_
  refine ce_iload_n dX7_wine_4 rfl ?_
  refine ce_cVp dX7_wine_5 hX0_knowsWine kRX7_101 (m_X0_knowsWine (a + 1) (sK S) (sO S) (hX).2.2.1 hr.1 ok.1 (x)) rfl rfl ((hX).2.2.1).1 rfl (by decide) (Nat.le_of_ble_eq_true rfl) ?_
  refine ce_if_eqB (tgt := 21) dX7_wine_8 (by decide) rfl (fun c_8 => ?_) (fun c_8 => ?_)
  · exact absurd hx c_8
  · refine ce_iload_n dX7_wine_11 rfl ?_
    refine ce_iconst (v := nI (0)) dX7_wine_12 (by decide) ?_
    refine ce_bipush (v := nI (8)) dX7_wine_13 (by decide) ?_
    refine ce_cSp dX7_wine_15 hX7_rangeFault kRX7_86 (hf ▸ m_X7_rangeFault z (nI (0)) (nI (8))) rfl rfl (by decide) (Nat.le_of_ble_eq_true rfl) ?_
    refine ce_goto (tgt := 22) dX7_wine_18 (by decide) ?_
    exact ce_callSX dX7_wine_22 hX7_check kRX7_56 (m_X7_checkX f h0 h3) rfl rfl (by decide) (by decide) (by decide) (by decide) (fun v σ1 g1 h => h.elim) (fun E σ1 g1 h => ce_xout rfl (by decide) (by decide) h)
set_option maxHeartbeats 2000000 in
set_option maxRecDepth 20000 in
theorem m_X7_bin_ok0 {σ : ce_S} {g : ce_D} (a : Nat) (b : Nat → Nat) (S : ks_S) (hX : ce_LX σ a b) (hr : ce_rX g a b S) (ok : ks_ok S) (b9 : Nat) (hb9 : b9 < sK S 0 2) : ce_CT (ce_r 5) mX7_bin [.ref (a), .int (nI (b9)), .int (nI (0))] σ g (ce_pv (nI ((sK S) 11 b9)) σ g) ce_no := by
  have hM := ok.1.me
  have hW := ok.1.wi
  have hB := ok.1.i7
  refine ce_enter (by decide) rfl (Nat.le_of_ble_eq_true rfl) (L := [some (.ref (a)), some (.int (nI (b9))), some (.int (nI (0)))]) rfl ?_
  refine ce_aload_n dX7_bin_0 rfl ?_
  refine ce_getR dX7_bin_1 fRX7_10 (hX).1 (hX).2.1.1 ?_
  refine ce_getR dX7_bin_4 fRX7_107 ((hX).2.2.1).1 ((hX).2.2.1).2.2.1.2.2.2.2 ?_
  refine ce_iload_n dX7_bin_7 rfl ?_
  refine ce_cVp dX7_bin_8 hX3_knows kRX7_111 (m_X3_knows (a + 1 + 16) (sK S) ((hX).2.2.1).2.2.2.2.2 hr.1.k ok.1.rk (nI (b9))) rfl rfl ((hX).2.2.1).2.2.2.2.2.1 rfl (by decide) (Nat.le_of_ble_eq_true rfl) ?_
  refine ce_if_eqB (tgt := 23) dX7_bin_11 (by decide) rfl (fun c_11 => ?_) (fun c_11 => ?_)
  · exact absurd ((ce_in_nI (by omega)).mpr hb9) c_11
  · refine ce_iload_n dX7_bin_14 rfl ?_
    refine ce_iconst (v := nI (0)) dX7_bin_15 (by decide) ?_
    refine ce_iconst (v := nI (2)) dX7_bin_16 (by decide) ?_
    refine ce_cSp dX7_bin_17 hX7_rangeFault kRX7_86 ((show kx_ran (nI (0)) (nI (0)).toInt (nI (2)).toInt = 0 by decide) ▸ m_X7_rangeFault (nI (0)) (nI (0)) (nI (2))) rfl rfl (by decide) (Nat.le_of_ble_eq_true rfl) ?_
    refine ce_goto (tgt := 24) dX7_bin_20 (by decide) ?_
    refine ce_cSq dX7_bin_24 hX7_check kRX7_56 (m_X7_check0) rfl rfl (by decide) (Nat.le_of_ble_eq_true rfl) ?_
    refine ce_aload_n dX7_bin_27 rfl ?_
    refine ce_getR dX7_bin_28 fRX7_10 (hX).1 (hX).2.1.1 ?_
    refine ce_getR dX7_bin_31 fRX7_107 ((hX).2.2.1).1 ((hX).2.2.1).2.2.1.2.2.2.2 ?_
    refine ce_iload_n dX7_bin_34 rfl ?_
    refine ce_iload_n dX7_bin_35 rfl ?_
    refine ce_cVp dX7_bin_36 hX3_factOf kRX7_116 (m_X3_factOf0 (a + 1 + 16) (sK S) ((hX).2.2.1).2.2.2.2.2 hr.1.k ok.1.rk b9 (by omega)) rfl rfl ((hX).2.2.1).2.2.2.2.2.1 rfl (by decide) (Nat.le_of_ble_eq_true rfl) ?_
    refine ce_iret dX7_bin_39 rfl rfl (by decide) (by decide) ?_
    exact ⟨rfl, rfl, rfl⟩
set_option maxHeartbeats 2000000 in
set_option maxRecDepth 20000 in
theorem m_X7_bin_ok1 {σ : ce_S} {g : ce_D} (a : Nat) (b : Nat → Nat) (S : ks_S) (hX : ce_LX σ a b) (hr : ce_rX g a b S) (ok : ks_ok S) (b9 : Nat) (hb9 : b9 < sK S 0 2) : ce_CT (ce_r 5) mX7_bin [.ref (a), .int (nI (b9)), .int (nI (1))] σ g (ce_pv (ce_wi (sK S) b9) σ g) ce_no := by
  have hM := ok.1.me
  have hW := ok.1.wi
  have hB := ok.1.i7
  refine ce_enter (by decide) rfl (Nat.le_of_ble_eq_true rfl) (L := [some (.ref (a)), some (.int (nI (b9))), some (.int (nI (1)))]) rfl ?_
  refine ce_aload_n dX7_bin_0 rfl ?_
  refine ce_getR dX7_bin_1 fRX7_10 (hX).1 (hX).2.1.1 ?_
  refine ce_getR dX7_bin_4 fRX7_107 ((hX).2.2.1).1 ((hX).2.2.1).2.2.1.2.2.2.2 ?_
  refine ce_iload_n dX7_bin_7 rfl ?_
  refine ce_cVp dX7_bin_8 hX3_knows kRX7_111 (m_X3_knows (a + 1 + 16) (sK S) ((hX).2.2.1).2.2.2.2.2 hr.1.k ok.1.rk (nI (b9))) rfl rfl ((hX).2.2.1).2.2.2.2.2.1 rfl (by decide) (Nat.le_of_ble_eq_true rfl) ?_
  refine ce_if_eqB (tgt := 23) dX7_bin_11 (by decide) rfl (fun c_11 => ?_) (fun c_11 => ?_)
  · exact absurd ((ce_in_nI (by omega)).mpr hb9) c_11
  · refine ce_iload_n dX7_bin_14 rfl ?_
    refine ce_iconst (v := nI (0)) dX7_bin_15 (by decide) ?_
    refine ce_iconst (v := nI (2)) dX7_bin_16 (by decide) ?_
    refine ce_cSp dX7_bin_17 hX7_rangeFault kRX7_86 ((show kx_ran (nI (1)) (nI (0)).toInt (nI (2)).toInt = 0 by decide) ▸ m_X7_rangeFault (nI (1)) (nI (0)) (nI (2))) rfl rfl (by decide) (Nat.le_of_ble_eq_true rfl) ?_
    refine ce_goto (tgt := 24) dX7_bin_20 (by decide) ?_
    refine ce_cSq dX7_bin_24 hX7_check kRX7_56 (m_X7_check0) rfl rfl (by decide) (Nat.le_of_ble_eq_true rfl) ?_
    refine ce_aload_n dX7_bin_27 rfl ?_
    refine ce_getR dX7_bin_28 fRX7_10 (hX).1 (hX).2.1.1 ?_
    refine ce_getR dX7_bin_31 fRX7_107 ((hX).2.2.1).1 ((hX).2.2.1).2.2.1.2.2.2.2 ?_
    refine ce_iload_n dX7_bin_34 rfl ?_
    refine ce_iload_n dX7_bin_35 rfl ?_
    refine ce_cVp dX7_bin_36 hX3_factOf kRX7_116 (m_X3_factOf1 (a + 1 + 16) (sK S) ((hX).2.2.1).2.2.2.2.2 hr.1.k ok.1.rk b9 (by omega)) rfl rfl ((hX).2.2.1).2.2.2.2.2.1 rfl (by decide) (Nat.le_of_ble_eq_true rfl) ?_
    refine ce_iret dX7_bin_39 rfl rfl (by decide) (by decide) ?_
    exact ⟨rfl, rfl, rfl⟩
set_option maxHeartbeats 2000000 in
set_option maxRecDepth 20000 in
theorem m_X7_bin_ok2 {σ : ce_S} {g : ce_D} (a : Nat) (b : Nat → Nat) (S : ks_S) (hX : ce_LX σ a b) (hr : ce_rX g a b S) (ok : ks_ok S) (b9 : Nat) (hb9 : b9 < sK S 0 2) : ce_CT (ce_r 5) mX7_bin [.ref (a), .int (nI (b9)), .int (nI (2))] σ g (ce_pv (nI ((sK S) 12 b9)) σ g) ce_no := by
  have hM := ok.1.me
  have hW := ok.1.wi
  have hB := ok.1.i7
  refine ce_enter (by decide) rfl (Nat.le_of_ble_eq_true rfl) (L := [some (.ref (a)), some (.int (nI (b9))), some (.int (nI (2)))]) rfl ?_
  refine ce_aload_n dX7_bin_0 rfl ?_
  refine ce_getR dX7_bin_1 fRX7_10 (hX).1 (hX).2.1.1 ?_
  refine ce_getR dX7_bin_4 fRX7_107 ((hX).2.2.1).1 ((hX).2.2.1).2.2.1.2.2.2.2 ?_
  refine ce_iload_n dX7_bin_7 rfl ?_
  refine ce_cVp dX7_bin_8 hX3_knows kRX7_111 (m_X3_knows (a + 1 + 16) (sK S) ((hX).2.2.1).2.2.2.2.2 hr.1.k ok.1.rk (nI (b9))) rfl rfl ((hX).2.2.1).2.2.2.2.2.1 rfl (by decide) (Nat.le_of_ble_eq_true rfl) ?_
  refine ce_if_eqB (tgt := 23) dX7_bin_11 (by decide) rfl (fun c_11 => ?_) (fun c_11 => ?_)
  · exact absurd ((ce_in_nI (by omega)).mpr hb9) c_11
  · refine ce_iload_n dX7_bin_14 rfl ?_
    refine ce_iconst (v := nI (0)) dX7_bin_15 (by decide) ?_
    refine ce_iconst (v := nI (2)) dX7_bin_16 (by decide) ?_
    refine ce_cSp dX7_bin_17 hX7_rangeFault kRX7_86 ((show kx_ran (nI (2)) (nI (0)).toInt (nI (2)).toInt = 0 by decide) ▸ m_X7_rangeFault (nI (2)) (nI (0)) (nI (2))) rfl rfl (by decide) (Nat.le_of_ble_eq_true rfl) ?_
    refine ce_goto (tgt := 24) dX7_bin_20 (by decide) ?_
    refine ce_cSq dX7_bin_24 hX7_check kRX7_56 (m_X7_check0) rfl rfl (by decide) (Nat.le_of_ble_eq_true rfl) ?_
    refine ce_aload_n dX7_bin_27 rfl ?_
    refine ce_getR dX7_bin_28 fRX7_10 (hX).1 (hX).2.1.1 ?_
    refine ce_getR dX7_bin_31 fRX7_107 ((hX).2.2.1).1 ((hX).2.2.1).2.2.1.2.2.2.2 ?_
    refine ce_iload_n dX7_bin_34 rfl ?_
    refine ce_iload_n dX7_bin_35 rfl ?_
    refine ce_cVp dX7_bin_36 hX3_factOf kRX7_116 (m_X3_factOf2 (a + 1 + 16) (sK S) ((hX).2.2.1).2.2.2.2.2 hr.1.k ok.1.rk b9 (by omega)) rfl rfl ((hX).2.2.1).2.2.2.2.2.1 rfl (by decide) (Nat.le_of_ble_eq_true rfl) ?_
    refine ce_iret dX7_bin_39 rfl rfl (by decide) (by decide) ?_
    exact ⟨rfl, rfl, rfl⟩
set_option maxHeartbeats 2000000 in
set_option maxRecDepth 20000 in
theorem m_X7_bin_n1 {σ : ce_S} {g : ce_D} (a : Nat) (b : Nat → Nat) (S : ks_S) (hX : ce_LX σ a b) (hr : ce_rX g a b S) (ok : ks_ok S) (x z : Int32) (hx : ¬ (ce_in x (sK S 0 2))) : ce_CT (ce_rx 2) mX7_bin [.ref (a), .int (x), .int (z)] σ g (fun _ _ _ => False) (kx_X 1 σ g) := by
  refine ce_enter (by decide) rfl (Nat.le_of_ble_eq_true rfl) (L := [some (.ref (a)), some (.int (x)), some (.int (z))]) rfl ?_
  refine ce_aload_n dX7_bin_0 rfl ?_
  refine ce_getR dX7_bin_1 fRX7_10 (hX).1 (hX).2.1.1 ?_
  refine ce_getR dX7_bin_4 fRX7_107 ((hX).2.2.1).1 ((hX).2.2.1).2.2.1.2.2.2.2 ?_
  refine ce_iload_n dX7_bin_7 rfl ?_
  refine ce_cVp dX7_bin_8 hX3_knows kRX7_111 (m_X3_knows (a + 1 + 16) (sK S) ((hX).2.2.1).2.2.2.2.2 hr.1.k ok.1.rk (x)) rfl rfl ((hX).2.2.1).2.2.2.2.2.1 rfl (by decide) (Nat.le_of_ble_eq_true rfl) ?_
  refine ce_if_eqB (tgt := 23) dX7_bin_11 (by decide) rfl (fun c_11 => ?_) (fun c_11 => ?_)
  · refine ce_iconst (v := nI (1)) dX7_bin_23 (by decide) ?_
    exact ce_callSX dX7_bin_24 hX7_check kRX7_56 (m_X7_checkX 1 (by decide) (by decide)) rfl rfl (by decide) (by decide) (by decide) (by decide) (fun v σ1 g1 h => h.elim) (fun E σ1 g1 h => ce_xout rfl (by decide) (by decide) h)
  · exact absurd c_11 hx
set_option maxHeartbeats 2000000 in
set_option maxRecDepth 20000 in
theorem m_X7_bin_n2 {σ : ce_S} {g : ce_D} (a : Nat) (b : Nat → Nat) (S : ks_S) (hX : ce_LX σ a b) (hr : ce_rX g a b S) (ok : ks_ok S) (x : Int32) (z : Int32) (hx : ce_in x (sK S 0 2)) (f : Nat) (hf : kx_ran z (nI 0).toInt (nI 2).toInt = f) (h0 : f ≠ 0) (h3 : f ≤ 3) : ce_CT (ce_rx 2) mX7_bin [.ref (a), .int (x), .int (z)] σ g (fun _ _ _ => False) (kx_X f σ g) := by
  refine ce_enter (by decide) rfl (Nat.le_of_ble_eq_true rfl) (L := [some (.ref (a)), some (.int (x)), some (.int (z))]) rfl ?_
  refine ce_aload_n dX7_bin_0 rfl ?_
  refine ce_getR dX7_bin_1 fRX7_10 (hX).1 (hX).2.1.1 ?_
  refine ce_getR dX7_bin_4 fRX7_107 ((hX).2.2.1).1 ((hX).2.2.1).2.2.1.2.2.2.2 ?_
  refine ce_iload_n dX7_bin_7 rfl ?_
  refine ce_cVp dX7_bin_8 hX3_knows kRX7_111 (m_X3_knows (a + 1 + 16) (sK S) ((hX).2.2.1).2.2.2.2.2 hr.1.k ok.1.rk (x)) rfl rfl ((hX).2.2.1).2.2.2.2.2.1 rfl (by decide) (Nat.le_of_ble_eq_true rfl) ?_
  refine ce_if_eqB (tgt := 23) dX7_bin_11 (by decide) rfl (fun c_11 => ?_) (fun c_11 => ?_)
  · exact absurd hx c_11
  · refine ce_iload_n dX7_bin_14 rfl ?_
    refine ce_iconst (v := nI (0)) dX7_bin_15 (by decide) ?_
    refine ce_iconst (v := nI (2)) dX7_bin_16 (by decide) ?_
    refine ce_cSp dX7_bin_17 hX7_rangeFault kRX7_86 (hf ▸ m_X7_rangeFault z (nI (0)) (nI (2))) rfl rfl (by decide) (Nat.le_of_ble_eq_true rfl) ?_
    refine ce_goto (tgt := 24) dX7_bin_20 (by decide) ?_
    exact ce_callSX dX7_bin_24 hX7_check kRX7_56 (m_X7_checkX f h0 h3) rfl rfl (by decide) (by decide) (by decide) (by decide) (fun v σ1 g1 h => h.elim) (fun E σ1 g1 h => ce_xout rfl (by decide) (by decide) h)
set_option maxHeartbeats 2000000 in
set_option maxRecDepth 20000 in
theorem m_X7_has_ok0 {σ : ce_S} {g : ce_D} (a : Nat) (b : Nat → Nat) (S : ks_S) (hX : ce_LX σ a b) (hr : ce_rX g a b S) (ok : ks_ok S) (m w : Nat) (hm : m < sK S 0 0) (hw : w < sK S 0 1) : ce_CT (ce_r 5) mX7_has [.ref (a), .int (nI (m)), .int (nI (w)), .int (nI (0))] σ g (ce_pv (nI ((sK S) 7 (m * 6 + w))) σ g) ce_no := by
  have hM := ok.1.me
  have hW := ok.1.wi
  have hB := ok.1.i7
  refine ce_enter (by decide) rfl (Nat.le_of_ble_eq_true rfl) (L := [some (.ref (a)), some (.int (nI (m))), some (.int (nI (w))), some (.int (nI (0)))]) rfl ?_
  refine ce_aload_n dX7_has_0 rfl ?_
  refine ce_getR dX7_has_1 fRX7_10 (hX).1 (hX).2.1.1 ?_
  refine ce_iload_n dX7_has_4 rfl ?_
  refine ce_iload_n dX7_has_5 rfl ?_
  refine ce_cVp dX7_has_6 hX0_knowsBoth kRX7_119 (m_X0_knowsBoth (a + 1) (sK S) (sO S) (hX).2.2.1 hr.1 ok.1 (nI (m)) (nI (w))) rfl rfl ((hX).2.2.1).1 rfl (by decide) (Nat.le_of_ble_eq_true rfl) ?_
  refine ce_if_eqB (tgt := 21) dX7_has_9 (by decide) rfl (fun c_9 => ?_) (fun c_9 => ?_)
  · exact absurd (⟨(ce_in_nI (by omega)).mpr hm, (ce_in_nI (by omega)).mpr hw⟩) c_9
  · refine ce_iload_n dX7_has_12 rfl ?_
    refine ce_iconst (v := nI (0)) dX7_has_13 (by decide) ?_
    refine ce_iconst (v := nI (2)) dX7_has_14 (by decide) ?_
    refine ce_cSp dX7_has_15 hX7_rangeFault kRX7_86 ((show kx_ran (nI (0)) (nI (0)).toInt (nI (2)).toInt = 0 by decide) ▸ m_X7_rangeFault (nI (0)) (nI (0)) (nI (2))) rfl rfl (by decide) (Nat.le_of_ble_eq_true rfl) ?_
    refine ce_goto (tgt := 22) dX7_has_18 (by decide) ?_
    refine ce_cSq dX7_has_22 hX7_check kRX7_56 (m_X7_check0) rfl rfl (by decide) (Nat.le_of_ble_eq_true rfl) ?_
    refine ce_aload_n dX7_has_25 rfl ?_
    refine ce_getR dX7_has_26 fRX7_10 (hX).1 (hX).2.1.1 ?_
    refine ce_iload_n dX7_has_29 rfl ?_
    refine ce_iload_n dX7_has_30 rfl ?_
    refine ce_iload_n dX7_has_31 rfl ?_
    refine ce_cVp dX7_has_32 hX0_factOfBoth kRX7_123 (m_X0_factOfBoth0 (a + 1) (sK S) (sO S) (hX).2.2.1 hr.1 ok.1 m w (by omega) (by omega)) rfl rfl ((hX).2.2.1).1 rfl (by decide) (Nat.le_of_ble_eq_true rfl) ?_
    refine ce_iret dX7_has_35 rfl rfl (by decide) (by decide) ?_
    exact ⟨rfl, rfl, rfl⟩
set_option maxHeartbeats 2000000 in
set_option maxRecDepth 20000 in
theorem m_X7_has_ok1 {σ : ce_S} {g : ce_D} (a : Nat) (b : Nat → Nat) (S : ks_S) (hX : ce_LX σ a b) (hr : ce_rX g a b S) (ok : ks_ok S) (m w : Nat) (hm : m < sK S 0 0) (hw : w < sK S 0 1) : ce_CT (ce_r 5) mX7_has [.ref (a), .int (nI (m)), .int (nI (w)), .int (nI (1))] σ g (ce_pv (nI ((sK S) 8 (m * 6 + w))) σ g) ce_no := by
  have hM := ok.1.me
  have hW := ok.1.wi
  have hB := ok.1.i7
  refine ce_enter (by decide) rfl (Nat.le_of_ble_eq_true rfl) (L := [some (.ref (a)), some (.int (nI (m))), some (.int (nI (w))), some (.int (nI (1)))]) rfl ?_
  refine ce_aload_n dX7_has_0 rfl ?_
  refine ce_getR dX7_has_1 fRX7_10 (hX).1 (hX).2.1.1 ?_
  refine ce_iload_n dX7_has_4 rfl ?_
  refine ce_iload_n dX7_has_5 rfl ?_
  refine ce_cVp dX7_has_6 hX0_knowsBoth kRX7_119 (m_X0_knowsBoth (a + 1) (sK S) (sO S) (hX).2.2.1 hr.1 ok.1 (nI (m)) (nI (w))) rfl rfl ((hX).2.2.1).1 rfl (by decide) (Nat.le_of_ble_eq_true rfl) ?_
  refine ce_if_eqB (tgt := 21) dX7_has_9 (by decide) rfl (fun c_9 => ?_) (fun c_9 => ?_)
  · exact absurd (⟨(ce_in_nI (by omega)).mpr hm, (ce_in_nI (by omega)).mpr hw⟩) c_9
  · refine ce_iload_n dX7_has_12 rfl ?_
    refine ce_iconst (v := nI (0)) dX7_has_13 (by decide) ?_
    refine ce_iconst (v := nI (2)) dX7_has_14 (by decide) ?_
    refine ce_cSp dX7_has_15 hX7_rangeFault kRX7_86 ((show kx_ran (nI (1)) (nI (0)).toInt (nI (2)).toInt = 0 by decide) ▸ m_X7_rangeFault (nI (1)) (nI (0)) (nI (2))) rfl rfl (by decide) (Nat.le_of_ble_eq_true rfl) ?_
    refine ce_goto (tgt := 22) dX7_has_18 (by decide) ?_
    refine ce_cSq dX7_has_22 hX7_check kRX7_56 (m_X7_check0) rfl rfl (by decide) (Nat.le_of_ble_eq_true rfl) ?_
    refine ce_aload_n dX7_has_25 rfl ?_
    refine ce_getR dX7_has_26 fRX7_10 (hX).1 (hX).2.1.1 ?_
    refine ce_iload_n dX7_has_29 rfl ?_
    refine ce_iload_n dX7_has_30 rfl ?_
    refine ce_iload_n dX7_has_31 rfl ?_
    refine ce_cVp dX7_has_32 hX0_factOfBoth kRX7_123 (m_X0_factOfBoth1 (a + 1) (sK S) (sO S) (hX).2.2.1 hr.1 ok.1 m w (by omega) (by omega)) rfl rfl ((hX).2.2.1).1 rfl (by decide) (Nat.le_of_ble_eq_true rfl) ?_
    refine ce_iret dX7_has_35 rfl rfl (by decide) (by decide) ?_
    exact ⟨rfl, rfl, rfl⟩
set_option maxHeartbeats 2000000 in
set_option maxRecDepth 20000 in
theorem m_X7_has_ok2 {σ : ce_S} {g : ce_D} (a : Nat) (b : Nat → Nat) (S : ks_S) (hX : ce_LX σ a b) (hr : ce_rX g a b S) (ok : ks_ok S) (m w : Nat) (hm : m < sK S 0 0) (hw : w < sK S 0 1) : ce_CT (ce_r 5) mX7_has [.ref (a), .int (nI (m)), .int (nI (w)), .int (nI (2))] σ g (ce_pv (nI ((sK S) 9 (m * 6 + w))) σ g) ce_no := by
  have hM := ok.1.me
  have hW := ok.1.wi
  have hB := ok.1.i7
  refine ce_enter (by decide) rfl (Nat.le_of_ble_eq_true rfl) (L := [some (.ref (a)), some (.int (nI (m))), some (.int (nI (w))), some (.int (nI (2)))]) rfl ?_
  refine ce_aload_n dX7_has_0 rfl ?_
  refine ce_getR dX7_has_1 fRX7_10 (hX).1 (hX).2.1.1 ?_
  refine ce_iload_n dX7_has_4 rfl ?_
  refine ce_iload_n dX7_has_5 rfl ?_
  refine ce_cVp dX7_has_6 hX0_knowsBoth kRX7_119 (m_X0_knowsBoth (a + 1) (sK S) (sO S) (hX).2.2.1 hr.1 ok.1 (nI (m)) (nI (w))) rfl rfl ((hX).2.2.1).1 rfl (by decide) (Nat.le_of_ble_eq_true rfl) ?_
  refine ce_if_eqB (tgt := 21) dX7_has_9 (by decide) rfl (fun c_9 => ?_) (fun c_9 => ?_)
  · exact absurd (⟨(ce_in_nI (by omega)).mpr hm, (ce_in_nI (by omega)).mpr hw⟩) c_9
  · refine ce_iload_n dX7_has_12 rfl ?_
    refine ce_iconst (v := nI (0)) dX7_has_13 (by decide) ?_
    refine ce_iconst (v := nI (2)) dX7_has_14 (by decide) ?_
    refine ce_cSp dX7_has_15 hX7_rangeFault kRX7_86 ((show kx_ran (nI (2)) (nI (0)).toInt (nI (2)).toInt = 0 by decide) ▸ m_X7_rangeFault (nI (2)) (nI (0)) (nI (2))) rfl rfl (by decide) (Nat.le_of_ble_eq_true rfl) ?_
    refine ce_goto (tgt := 22) dX7_has_18 (by decide) ?_
    refine ce_cSq dX7_has_22 hX7_check kRX7_56 (m_X7_check0) rfl rfl (by decide) (Nat.le_of_ble_eq_true rfl) ?_
    refine ce_aload_n dX7_has_25 rfl ?_
    refine ce_getR dX7_has_26 fRX7_10 (hX).1 (hX).2.1.1 ?_
    refine ce_iload_n dX7_has_29 rfl ?_
    refine ce_iload_n dX7_has_30 rfl ?_
    refine ce_iload_n dX7_has_31 rfl ?_
    refine ce_cVp dX7_has_32 hX0_factOfBoth kRX7_123 (m_X0_factOfBoth2 (a + 1) (sK S) (sO S) (hX).2.2.1 hr.1 ok.1 m w (by omega) (by omega)) rfl rfl ((hX).2.2.1).1 rfl (by decide) (Nat.le_of_ble_eq_true rfl) ?_
    refine ce_iret dX7_has_35 rfl rfl (by decide) (by decide) ?_
    exact ⟨rfl, rfl, rfl⟩
set_option maxHeartbeats 2000000 in
set_option maxRecDepth 20000 in
theorem m_X7_has_n1 {σ : ce_S} {g : ce_D} (a : Nat) (b : Nat → Nat) (S : ks_S) (hX : ce_LX σ a b) (hr : ce_rX g a b S) (ok : ks_ok S) (x y z : Int32) (hx : ¬ (ce_in x (sK S 0 0) ∧ ce_in y (sK S 0 1))) : ce_CT (ce_rx 2) mX7_has [.ref (a), .int (x), .int (y), .int (z)] σ g (fun _ _ _ => False) (kx_X 1 σ g) := by
  refine ce_enter (by decide) rfl (Nat.le_of_ble_eq_true rfl) (L := [some (.ref (a)), some (.int (x)), some (.int (y)), some (.int (z))]) rfl ?_
  refine ce_aload_n dX7_has_0 rfl ?_
  refine ce_getR dX7_has_1 fRX7_10 (hX).1 (hX).2.1.1 ?_
  refine ce_iload_n dX7_has_4 rfl ?_
  refine ce_iload_n dX7_has_5 rfl ?_
  refine ce_cVp dX7_has_6 hX0_knowsBoth kRX7_119 (m_X0_knowsBoth (a + 1) (sK S) (sO S) (hX).2.2.1 hr.1 ok.1 (x) (y)) rfl rfl ((hX).2.2.1).1 rfl (by decide) (Nat.le_of_ble_eq_true rfl) ?_
  refine ce_if_eqB (tgt := 21) dX7_has_9 (by decide) rfl (fun c_9 => ?_) (fun c_9 => ?_)
  · refine ce_iconst (v := nI (1)) dX7_has_21 (by decide) ?_
    exact ce_callSX dX7_has_22 hX7_check kRX7_56 (m_X7_checkX 1 (by decide) (by decide)) rfl rfl (by decide) (by decide) (by decide) (by decide) (fun v σ1 g1 h => h.elim) (fun E σ1 g1 h => ce_xout rfl (by decide) (by decide) h)
  · exact absurd c_9 hx
set_option maxHeartbeats 2000000 in
set_option maxRecDepth 20000 in
theorem m_X7_has_n2 {σ : ce_S} {g : ce_D} (a : Nat) (b : Nat → Nat) (S : ks_S) (hX : ce_LX σ a b) (hr : ce_rX g a b S) (ok : ks_ok S) (x y : Int32) (z : Int32) (hx : ce_in x (sK S 0 0) ∧ ce_in y (sK S 0 1)) (f : Nat) (hf : kx_ran z (nI 0).toInt (nI 2).toInt = f) (h0 : f ≠ 0) (h3 : f ≤ 3) : ce_CT (ce_rx 2) mX7_has [.ref (a), .int (x), .int (y), .int (z)] σ g (fun _ _ _ => False) (kx_X f σ g) := by
  refine ce_enter (by decide) rfl (Nat.le_of_ble_eq_true rfl) (L := [some (.ref (a)), some (.int (x)), some (.int (y)), some (.int (z))]) rfl ?_
  refine ce_aload_n dX7_has_0 rfl ?_
  refine ce_getR dX7_has_1 fRX7_10 (hX).1 (hX).2.1.1 ?_
  refine ce_iload_n dX7_has_4 rfl ?_
  refine ce_iload_n dX7_has_5 rfl ?_
  refine ce_cVp dX7_has_6 hX0_knowsBoth kRX7_119 (m_X0_knowsBoth (a + 1) (sK S) (sO S) (hX).2.2.1 hr.1 ok.1 (x) (y)) rfl rfl ((hX).2.2.1).1 rfl (by decide) (Nat.le_of_ble_eq_true rfl) ?_
  refine ce_if_eqB (tgt := 21) dX7_has_9 (by decide) rfl (fun c_9 => ?_) (fun c_9 => ?_)
  · exact absurd hx c_9
  · refine ce_iload_n dX7_has_12 rfl ?_
    refine ce_iconst (v := nI (0)) dX7_has_13 (by decide) ?_
    refine ce_iconst (v := nI (2)) dX7_has_14 (by decide) ?_
    refine ce_cSp dX7_has_15 hX7_rangeFault kRX7_86 (hf ▸ m_X7_rangeFault z (nI (0)) (nI (2))) rfl rfl (by decide) (Nat.le_of_ble_eq_true rfl) ?_
    refine ce_goto (tgt := 22) dX7_has_18 (by decide) ?_
    exact ce_callSX dX7_has_22 hX7_check kRX7_56 (m_X7_checkX f h0 h3) rfl rfl (by decide) (by decide) (by decide) (by decide) (fun v σ1 g1 h => h.elim) (fun E σ1 g1 h => ce_xout rfl (by decide) (by decide) h)
set_option maxHeartbeats 2000000 in
set_option maxRecDepth 20000 in
theorem m_X7_roomFor_ok {σ : ce_S} {g : ce_D} (a : Nat) (b : Nat → Nat) (S : ks_S) (hX : ce_LX σ a b) (hr : ce_rX g a b S) (ok : ks_ok S) (w : Nat) (hw : w < sK S 0 1) : ce_CT (ce_r 5) mX7_roomFor [.ref (a), .int (nI (w))] σ g (ce_pv (nI (ce_sum (kv_room (sK S) w) (sK S 0 2))) σ g) ce_no := by
  have hW := ok.1.wi
  refine ce_enter (by decide) rfl (Nat.le_of_ble_eq_true rfl) (L := [some (.ref (a)), some (.int (nI (w)))]) rfl ?_
  refine ce_aload_n dX7_roomFor_0 rfl ?_
  refine ce_getR dX7_roomFor_1 fRX7_10 (hX).1 (hX).2.1.1 ?_
  refine ce_iload_n dX7_roomFor_4 rfl ?_
  refine ce_cVp dX7_roomFor_5 hX0_knowsWine kRX7_101 (m_X0_knowsWine (a + 1) (sK S) (sO S) (hX).2.2.1 hr.1 ok.1 (nI (w))) rfl rfl ((hX).2.2.1).1 rfl (by decide) (Nat.le_of_ble_eq_true rfl) ?_
  refine ce_if_eqB (tgt := 15) dX7_roomFor_8 (by decide) rfl (fun c_8 => ?_) (fun c_8 => ?_)
  · exact absurd ((ce_in_nI (by omega)).mpr hw) c_8
  · refine ce_iconst (v := nI (0)) dX7_roomFor_11 (by decide) ?_
    refine ce_goto (tgt := 16) dX7_roomFor_12 (by decide) ?_
    refine ce_cSq dX7_roomFor_16 hX7_check kRX7_56 (m_X7_check0) rfl rfl (by decide) (Nat.le_of_ble_eq_true rfl) ?_
    refine ce_aload_n dX7_roomFor_19 rfl ?_
    refine ce_getR dX7_roomFor_20 fRX7_10 (hX).1 (hX).2.1.1 ?_
    refine ce_getR dX7_roomFor_23 fRX7_107 ((hX).2.2.1).1 ((hX).2.2.1).2.2.1.2.2.2.2 ?_
    refine ce_iload_n dX7_roomFor_26 rfl ?_
    refine ce_cVp dX7_roomFor_27 hX3_roomForWine kRX7_222 (m_X3_roomForWine (a + 1 + 16) (sK S) ((hX).2.2.1).2.2.2.2.2 hr.1.k ok.1.rk w (by omega)) rfl rfl ((hX).2.2.1).2.2.2.2.2.1 rfl (by decide) (Nat.le_of_ble_eq_true rfl) ?_
    refine ce_iret dX7_roomFor_30 rfl rfl (by decide) (by decide) ?_
    exact ⟨rfl, rfl, rfl⟩
set_option maxHeartbeats 2000000 in
set_option maxRecDepth 20000 in
theorem m_X7_roomFor_n1 {σ : ce_S} {g : ce_D} (a : Nat) (b : Nat → Nat) (S : ks_S) (hX : ce_LX σ a b) (hr : ce_rX g a b S) (ok : ks_ok S) (x : Int32) (hx : ¬ ce_in x (sK S 0 1)) : ce_CT (ce_rx 2) mX7_roomFor [.ref (a), .int (x)] σ g (fun _ _ _ => False) (kx_X 1 σ g) := by
  refine ce_enter (by decide) rfl (Nat.le_of_ble_eq_true rfl) (L := [some (.ref (a)), some (.int (x))]) rfl ?_
  refine ce_aload_n dX7_roomFor_0 rfl ?_
  refine ce_getR dX7_roomFor_1 fRX7_10 (hX).1 (hX).2.1.1 ?_
  refine ce_iload_n dX7_roomFor_4 rfl ?_
  refine ce_cVp dX7_roomFor_5 hX0_knowsWine kRX7_101 (m_X0_knowsWine (a + 1) (sK S) (sO S) (hX).2.2.1 hr.1 ok.1 (x)) rfl rfl ((hX).2.2.1).1 rfl (by decide) (Nat.le_of_ble_eq_true rfl) ?_
  refine ce_if_eqB (tgt := 15) dX7_roomFor_8 (by decide) rfl (fun c_8 => ?_) (fun c_8 => ?_)
  · refine ce_iconst (v := nI (1)) dX7_roomFor_15 (by decide) ?_
    exact ce_callSX dX7_roomFor_16 hX7_check kRX7_56 (m_X7_checkX 1 (by decide) (by decide)) rfl rfl (by decide) (by decide) (by decide) (by decide) (fun v σ1 g1 h => h.elim) (fun E σ1 g1 h => ce_xout rfl (by decide) (by decide) h)
  · exact absurd c_8 hx
