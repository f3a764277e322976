set_option maxHeartbeats 2000000 in
set_option maxRecDepth 20000 in
theorem m_X8_restore_no {σ : ce_S} {g : ce_D} (d : Nat) (S : ks_S) (hD : ce_LM σ d) (hr : ce_rM g d S) (ok : ks_ok S) (x : Int32) (f : Nat) (hf : kx_reF S x = f) (h0 : f ≠ 0) : ce_CT (ce_r 5) mX8_restore [.ref (d), .int (x)] σ g (ce_rv σ (fun z9 g1 => g1 d 0 = nI (f) ∧ ce_rM g1 d S ∧ ce_fr d (d + 11) g g1)) ce_no := by
  have hB := ok.1.i7
  have hM := ok.1.me
  have hW := ok.1.wi
  have hst := ok.1.st
  have h14 : sn S ≤ 14 := hr.2.2.1.1
  have h120 : sl S ≤ 120 := hr.1.1
  refine ce_enter (by decide) rfl (Nat.le_of_ble_eq_true rfl) (L := [some (.ref (d)), some (.int (x))]) rfl ?_
  refine ce_aload_n dX8_restore_0 rfl ?_
  refine ce_iload_n dX8_restore_1 rfl ?_
  refine ce_i2l (v := (x).toInt64) dX8_restore_2 rfl ?_
  refine ce_lconst (v := 0) dX8_restore_3 (by decide) ?_
  refine ce_lconst (v := 1) dX8_restore_4 (by decide) ?_
  refine ce_cSp dX8_restore_5 hX8_in kRX8_108 (m_X8_in ((x).toInt64) (0) (1) ((0 : Int) ≤ (x).toInt ∧ (x).toInt ≤ (1 : Int)) (cr_io ((cr_tl (x)).trans rfl) (by decide) (by decide))) rfl rfl (by decide) (Nat.le_of_ble_eq_true rfl) ?_
  refine ce_if_neB (tgt := 15) dX8_restore_8 (by decide) rfl (fun c_8 => ?_) (fun c_8 => ?_)
  · obtain ⟨s, hs, hs2, rfl⟩ :=  (ce_ran_ex (lo := 0) (hi := 1) (x := x) ⟨by omega, by omega⟩)
    have es := nI_toInt (n := s) (by omega)
    refine ce_aload_n dX8_restore_15 rfl ?_
    refine ce_getR dX8_restore_16 fRX8_28 hD.1 hD.2.1.2.2.2.2.2.2.1 ?_
    refine ce_iload_n dX8_restore_19 rfl ?_
    refine ce_zaldv dX8_restore_20 (hD.2.2.2.2.2.2.2.2.1).1 rfl (hD.2.2.2.2.2.2.2.2.1).2 (by omega) (by decide) (hr.2.2.2.1 s (by omega)) ?_
    refine ce_if_eqB (tgt := 28) dX8_restore_21 (by decide) rfl (fun c_21 => ?_) (fun c_21 => ?_)
    · refine ce_iconst (v := nI (2)) dX8_restore_28 (by decide) ?_
      have ef : f = 2 := hf.symm.trans (show kx_reF S (nI s) = 2 by unfold kx_reF; (try unfold ce_n); (try simp only [es, Int.toNat_natCast]); (try unfold ce_in at *); (repeat' split) <;> first | rfl | (exfalso; first | omega | contradiction))
      refine ce_cVr dX8_restore_29 hX8_refused kRX8_115 (m_X8_refused2 d hD) rfl rfl hD.1 rfl (by decide) (Nat.le_of_ble_eq_true rfl) (fun rcg1 cg1 hcg1 => ?_)
      obtain ⟨ecg1, hcg1⟩ := hcg1
      have ecg1 : rcg1 = nI 1 := ecg1
      subst ecg1
      have Mcg1 : ce_rM cg1 d S := by rw [hcg1]; exact rM_ref hr
      have zcg1 : cg1 d 0 = nI 2 := by rw [hcg1]; exact ce_up_at _ _ _ _
      have ycg1 : ce_fr d (d + 11) g cg1 := fun x hx => by rw [hcg1]; exact ce_up_ne _ _ _ (by omega)
      refine ce_if_eqN (tgt := 37) dX8_restore_32 (by decide) rfl (by omega) (fun c_32 => ?_) (fun c_32 => ?_)
      · omega
      · refine ce_iconst (v := nI (0)) dX8_restore_35 (by decide) ?_
        refine ce_iret dX8_restore_36 rfl rfl (by decide) (by decide) ?_
        exact ⟨_, rfl, rfl, by rw [ef]; exact zcg1, Mcg1, ycg1⟩
    · refine ce_iconst (v := nI (0)) dX8_restore_24 (by decide) ?_
      refine ce_goto (tgt := 29) dX8_restore_25 (by decide) ?_
      have ef : f = 0 := hf.symm.trans (show kx_reF S (nI s) = 0 by unfold kx_reF; (try unfold ce_n); (try simp only [es, Int.toNat_natCast]); (try unfold ce_in at *); (repeat' split) <;> first | rfl | (exfalso; first | omega | contradiction))
      exact absurd ef h0
  · refine ce_iconst (v := nI (1)) dX8_restore_11 (by decide) ?_
    refine ce_goto (tgt := 29) dX8_restore_12 (by decide) ?_
    have ef : f = 1 := hf.symm.trans (show kx_reF S x = 1 by unfold kx_reF; (try unfold ce_n); (try simp only [Int.toNat_natCast]); (try unfold ce_in at *); (repeat' split) <;> first | rfl | (exfalso; first | omega | contradiction))
    refine ce_cVr dX8_restore_29 hX8_refused kRX8_115 (m_X8_refused1 d hD) rfl rfl hD.1 rfl (by decide) (Nat.le_of_ble_eq_true rfl) (fun rcg1 cg1 hcg1 => ?_)
    obtain ⟨ecg1, hcg1⟩ := hcg1
    have ecg1 : rcg1 = nI 1 := ecg1
    subst ecg1
    have Mcg1 : ce_rM cg1 d S := by rw [hcg1]; exact rM_ref hr
    have zcg1 : cg1 d 0 = nI 1 := by rw [hcg1]; exact ce_up_at _ _ _ _
    have ycg1 : ce_fr d (d + 11) g cg1 := fun x hx => by rw [hcg1]; exact ce_up_ne _ _ _ (by omega)
    refine ce_if_eqN (tgt := 37) dX8_restore_32 (by decide) rfl (by omega) (fun c_32 => ?_) (fun c_32 => ?_)
    · omega
    · refine ce_iconst (v := nI (0)) dX8_restore_35 (by decide) ?_
      refine ce_iret dX8_restore_36 rfl rfl (by decide) (by decide) ?_
      exact ⟨_, rfl, rfl, by rw [ef]; exact zcg1, Mcg1, ycg1⟩
set_option maxHeartbeats 2000000 in
set_option maxRecDepth 20000 in
theorem m_X8_errorPosition_ok {σ : ce_S} {g : ce_D} (d : Nat) (S : ks_S) (hD : ce_LM σ d) (hr : ce_rM g d S) (ok : ks_ok S) : ce_CT (ce_r 5) mX8_errorPosition [.ref (d)] σ g (ce_rv σ (fun z9 g1 => z9 = ce_o (kx_read (sT S) (sl S)).1 ∧ g1 d 0 = nI 0 ∧ ce_rM g1 d S ∧ ce_fr d (d + 11) g g1)) ce_no := by
  have hB := ok.1.i7
  have hM := ok.1.me
  have hW := ok.1.wi
  have hst := ok.1.st
  have h14 : sn S ≤ 14 := hr.2.2.1.1
  have h120 : sl S ≤ 120 := hr.1.1
  refine ce_enter (by decide) rfl (Nat.le_of_ble_eq_true rfl) (L := [some (.ref (d))]) rfl ?_
  refine ce_aload_n dX8_errorPosition_0 rfl ?_
  refine ce_iconst (v := nI (0)) dX8_errorPosition_1 (by decide) ?_
  refine ce_putI dX8_errorPosition_2 pRX8_41 hD.1 rfl rfl ?_
  generalize hcg1 : ce_up g (d) 0 (nI (0)) = cg1
  have Mcg1 : ce_rM cg1 d S := by rw [← hcg1]; exact rM_ref hr
  have zcg1 : cg1 d 0 = nI 0 := by rw [← hcg1]; exact ce_up_at _ _ _ _
  have ycg1 : ce_fr d (d + 11) g cg1 := fun x hx => by rw [← hcg1]; exact ce_up_ne _ _ _ (by omega)
  refine ce_aload_n dX8_errorPosition_5 rfl ?_
  refine ce_cVr dX8_errorPosition_6 hX8_readText kRX8_154 (m_X8_readText d (sl S) (sT S) hD Mcg1.1.1 Mcg1.1.2.2 ok.2.2.2 Mcg1.1.2.1) rfl rfl hD.1 rfl (by decide) (Nat.le_of_ble_eq_true rfl) (fun rcg2 cg2 hcg2 => ?_)
  obtain ⟨ecg2, q8, q9, tcg2⟩ := hcg2
  have Mcg2 : ce_rM cg2 d S := rM_kp Mcg1 (tcg2.1.trans Mcg1.1.2.1.symm) tcg2.2.2.2.2.1.2 (tcg2.2.2.2.2.2 _ (by omega) (by omega)) (tcg2.2.2.2.2.2 _ (by omega) (by omega)) (tcg2.2.2.2.2.2 _ (by omega) (by omega)) (tcg2.2.2.2.2.2 _ (by omega) (by omega)) (tcg2.2.2.2.2.2 _ (by omega) (by omega))
  have ycg2 : ce_fr d (d + 11) cg1 cg2 := fun x hx => tcg2.2.2.2.2.2 x (by omega) (by omega)
  refine ce_iret dX8_errorPosition_9 rfl rfl (by decide) (by decide) ?_
  exact ⟨_, rfl, rfl, ecg2, tcg2.2.2.2.2.1.1.trans zcg1, Mcg2, fun x hx => (ycg2 x hx).trans (ycg1 x hx)⟩
set_option maxHeartbeats 2000000 in
set_option maxRecDepth 20000 in
theorem m_X8_load_ok {σ : ce_S} {g : ce_D} (d : Nat) (S : ks_S) (hD : ce_LM σ d) (hr : ce_rM g d S) (ok : ks_ok S) (hp : (kx_read (sT S) (sl S)).1 = none) : ce_CT (ce_r 5) mX8_load [.ref (d)] σ g (ce_rv σ (fun z9 g1 => z9 = nI ((kx_read (sT S) (sl S)).2 0 0) ∧ g1 d 0 = nI 0 ∧ ce_rM g1 d (ks_load S (kx_read (sT S) (sl S)).2) ∧ ce_fr d (d + 11) g g1)) ce_no := by
  have hB := ok.1.i7
  have hM := ok.1.me
  have hW := ok.1.wi
  have hst := ok.1.st
  have h14 : sn S ≤ 14 := hr.2.2.1.1
  have h120 : sl S ≤ 120 := hr.1.1
  have hkr := kx_read_cl (T := sT S) (len := sl S)
  refine ce_enter (by decide) rfl (Nat.le_of_ble_eq_true rfl) (L := [some (.ref (d))]) rfl ?_
  refine ce_aload_n dX8_load_0 rfl ?_
  refine ce_aload_n dX8_load_1 rfl ?_
  refine ce_cVr dX8_load_2 hX8_readText kRX8_154 (m_X8_readText d (sl S) (sT S) hD hr.1.1 hr.1.2.2 ok.2.2.2 hr.1.2.1) rfl rfl hD.1 rfl (by decide) (Nat.le_of_ble_eq_true rfl) (fun rcg1 cg1 hcg1 => ?_)
  obtain ⟨ecg1, q8, q9, tcg1⟩ := hcg1
  have Mcg1 : ce_rM cg1 d S := rM_kp hr (tcg1.1.trans hr.1.2.1.symm) tcg1.2.2.2.2.1.2 (tcg1.2.2.2.2.2 _ (by omega) (by omega)) (tcg1.2.2.2.2.2 _ (by omega) (by omega)) (tcg1.2.2.2.2.2 _ (by omega) (by omega)) (tcg1.2.2.2.2.2 _ (by omega) (by omega)) (tcg1.2.2.2.2.2 _ (by omega) (by omega))
  have ycg1 : ce_fr d (d + 11) g cg1 := fun x hx => tcg1.2.2.2.2.2 x (by omega) (by omega)
  have ecg1 : rcg1 = (-99999) := ecg1.trans (by rw [hp]; rfl)
  subst ecg1
  refine ce_ldc dX8_load_5 kRX8_65 ?_
  refine ce_icmp_neI (p := (-99999)) (q := (-99999)) (tgt := 14) dX8_load_7 (by decide) (by decide) (by decide) (fun c_7 => ?_) (fun c_7 => ?_)
  · omega
  · refine ce_iconst (v := nI (0)) dX8_load_10 (by decide) ?_
    refine ce_goto (tgt := 15) dX8_load_11 (by decide) ?_
    refine ce_cVr dX8_load_15 hX8_refused kRX8_115 (m_X8_refused0 d hD) rfl rfl hD.1 rfl (by decide) (Nat.le_of_ble_eq_true rfl) (fun rcg2 cg2 hcg2 => ?_)
    obtain ⟨ecg2, hcg2⟩ := hcg2
    have ecg2 : rcg2 = nI 0 := ecg2
    subst ecg2
    have Mcg2 : ce_rM cg2 d S := by rw [hcg2]; exact rM_ref Mcg1
    have zcg2 : cg2 d 0 = nI 0 := by rw [hcg2]; exact ce_up_at _ _ _ _
    have ycg2 : ce_fr d (d + 11) g cg2 := fun x hx => by rw [hcg2, ce_up_ne _ _ _ (by omega)]; exact ycg1 x hx
    have tcg2 : cr_row (cg2 (d + 2)) (kq (kx_read (sT S) (sl S)).2) (fun _ => 0) := by rw [hcg2, ce_up_ne _ _ _ (by omega)]; exact tcg1.2.2.2.1
    refine ce_if_eqN (tgt := 23) dX8_load_18 (by decide) rfl (by omega) (fun c_18 => ?_) (fun c_18 => ?_)
    · refine ce_aload_n dX8_load_23 rfl ?_
      refine ce_getR dX8_load_24 fRX8_13 hD.1 hD.2.1.2.1 ?_
      refine ce_iconst (v := nI (0)) dX8_load_27 (by decide) ?_
      refine ce_aload_n dX8_load_28 rfl ?_
      refine ce_getR dX8_load_29 fRX8_16 hD.1 hD.2.1.2.2.1 ?_
      refine ce_iconst (v := nI (0)) dX8_load_32 (by decide) ?_
      refine ce_sipush (v := nI (189)) dX8_load_33 (by decide) ?_
      refine ce_cSu dX8_load_36 hX8_copy kRX8_50 (m_X8_copy (d + 2) (0) (d + 3) (0) (189) 189 189 ⟨(hD.2.2.2.1).1, (hD.2.2.2.1).2⟩ ⟨(hD.2.2.2.2.1).1, (hD.2.2.2.2.1).2⟩ (by omega) (by omega) (by omega) (by omega)) rfl rfl (by decide) (Nat.le_of_ble_eq_true rfl) (fun cg3 hcg3 => ?_)
      have i2cg3 : cg3 d 2 = nI (sl S) := by rw [hcg3, ce_mv_ne (by omega)]; exact Mcg2.1.2.1
      have i9cg3 : cg3 d 9 = nI (sn S) := by rw [hcg3, ce_mv_ne (by omega)]; exact Mcg2.2.2.1.2.1
      have Rcg3 : cr_row (cg3 (d + 3)) (kq ((kx_read (sT S) (sl S)).2)) (fun _ => 0) := by rw [hcg3]; exact (tcg2).eq (fun i hi => by rw [ce_mv_in (by omega), Nat.sub_zero, Nat.zero_add])
      refine ce_aload_n dX8_load_39 rfl ?_
      refine ce_iconst (v := nI (0)) dX8_load_40 (by decide) ?_
      refine ce_putI dX8_load_41 pRX8_47 hD.1 rfl rfl ?_
      generalize hcg4 : ce_up cg3 (d) 9 (nI (0)) = cg4
      have i2cg4 : cg4 d 2 = nI (sl S) := by rw [← hcg4, ce_up_j (by decide)]; exact i2cg3
      have i9cg4 : cg4 d 9 = nI (0) := by rw [← hcg4]; exact ce_up_at _ _ _ _
      have Rcg4 : cr_row (cg4 (d + 3)) (kq ((kx_read (sT S) (sl S)).2)) (fun _ => 0) := by rw [← hcg4, ce_up_ne _ _ _ (by omega)]; exact Rcg3
      refine ce_aload_n dX8_load_44 rfl ?_
      refine ce_getR dX8_load_45 fRX8_28 hD.1 hD.2.1.2.2.2.2.2.2.1 ?_
      refine ce_iconst (v := nI (0)) dX8_load_48 (by decide) ?_
      refine ce_iconst (v := nI (0)) dX8_load_49 (by decide) ?_
      refine ce_zast dX8_load_50 (hD.2.2.2.2.2.2.2.2.1).1 rfl (hD.2.2.2.2.2.2.2.2.1).2 (by omega) (by decide) rfl ?_
      generalize hcg5 : ce_up cg4 (d + 7) (0) (nI (0)) = cg5
      have i2cg5 : cg5 d 2 = nI (sl S) := by rw [← hcg5, ce_up_ne _ _ _ (by omega)]; exact i2cg4
      have i9cg5 : cg5 d 9 = nI (0) := by rw [← hcg5, ce_up_ne _ _ _ (by omega)]; exact i9cg4
      have Rcg5 : cr_row (cg5 (d + 3)) (kq ((kx_read (sT S) (sl S)).2)) (fun _ => 0) := by rw [← hcg5, ce_up_ne _ _ _ (by omega)]; exact Rcg4
      refine ce_aload_n dX8_load_51 rfl ?_
      refine ce_getR dX8_load_52 fRX8_28 hD.1 hD.2.1.2.2.2.2.2.2.1 ?_
      refine ce_iconst (v := nI (1)) dX8_load_55 (by decide) ?_
      refine ce_iconst (v := nI (0)) dX8_load_56 (by decide) ?_
      refine ce_zast dX8_load_57 (hD.2.2.2.2.2.2.2.2.1).1 rfl (hD.2.2.2.2.2.2.2.2.1).2 (by omega) (by decide) rfl ?_
      generalize hcg6 : ce_up cg5 (d + 7) (1) (nI (0)) = cg6
      have i2cg6 : cg6 d 2 = nI (sl S) := by rw [← hcg6, ce_up_ne _ _ _ (by omega)]; exact i2cg5
      have i9cg6 : cg6 d 9 = nI (0) := by rw [← hcg6, ce_up_ne _ _ _ (by omega)]; exact i9cg5
      have Rcg6 : cr_row (cg6 (d + 3)) (kq ((kx_read (sT S) (sl S)).2)) (fun _ => 0) := by rw [← hcg6, ce_up_ne _ _ _ (by omega)]; exact Rcg5
      refine ce_aload_n dX8_load_58 rfl ?_
      refine ce_getR dX8_load_59 fRX8_16 hD.1 hD.2.1.2.2.1 ?_
      refine ce_iconst (v := nI (0)) dX8_load_62 (by decide) ?_
      refine ce_ialdv dX8_load_63 (hD.2.2.2.2.1).1 rfl (hD.2.2.2.2.1).2 (by omega) (by decide) (((Rcg6).c0).trans (congrArg nI (by rw [kq_ne (by decide)]))) ?_
      refine ce_iret dX8_load_64 rfl rfl (by decide) (by decide) ?_
      have f9 : ∀ x, x ≠ d → x ≠ d + 3 → x ≠ d + 7 → cg6 x = cg2 x := fun x h1 h2 h3 => by rw [← hcg6, ce_up_ne _ _ _ h3, ← hcg5, ce_up_ne _ _ _ h3, ← hcg4, ce_up_ne _ _ _ h1, hcg3, ce_mv_ne h2]
      have f0 : ∀ k, k ≠ 9 → cg6 d k = cg2 d k := fun k hk => by rw [← hcg6, ce_up_ne _ _ _ (by omega), ← hcg5, ce_up_ne _ _ _ (by omega), ← hcg4, ce_up_j hk, hcg3, ce_mv_ne (by omega)]
      have f7 : ∀ s, s < 2 → cg6 (d + 7) s = 0 := fun s hs => by
        have hc : s = 0 ∨ s = 1 := by omega
        rcases hc with q | q
        · rw [q, ← hcg6, ce_up_j (by decide), ← hcg5]; exact ce_up_at _ _ _ _
        · rw [q, ← hcg6]; exact ce_up_at _ _ _ _
      exact ⟨_, rfl, rfl, rfl, (f0 0 (by decide)).trans zcg2, rM_load Mcg2 i9cg6 (f0 2 (by decide)) Rcg6 f7 (fun x h1 _ h3 h4 => f9 x h1 h3 h4), fun x hx => (f9 x (by omega) (by omega) (by omega)).trans (ycg2 x hx)⟩
    · omega
set_option maxHeartbeats 2000000 in
set_option maxRecDepth 20000 in
theorem m_X8_load_no {σ : ce_S} {g : ce_D} (d : Nat) (S : ks_S) (hD : ce_LM σ d) (hr : ce_rM g d S) (ok : ks_ok S) (p : Nat) (hp : (kx_read (sT S) (sl S)).1 = some p) : ce_CT (ce_r 5) mX8_load [.ref (d)] σ g (ce_rv σ (fun z9 g1 => g1 d 0 = nI 1 ∧ ce_rM g1 d S ∧ ce_fr d (d + 11) g g1)) ce_no := by
  have hB := ok.1.i7
  have hM := ok.1.me
  have hW := ok.1.wi
  have hst := ok.1.st
  have h14 : sn S ≤ 14 := hr.2.2.1.1
  have h120 : sl S ≤ 120 := hr.1.1
  have hp9 := kx_read_le hp
  have h120 := hr.1.1
  refine ce_enter (by decide) rfl (Nat.le_of_ble_eq_true rfl) (L := [some (.ref (d))]) rfl ?_
  refine ce_aload_n dX8_load_0 rfl ?_
  refine ce_aload_n dX8_load_1 rfl ?_
  refine ce_cVr dX8_load_2 hX8_readText kRX8_154 (m_X8_readText d (sl S) (sT S) hD hr.1.1 hr.1.2.2 ok.2.2.2 hr.1.2.1) rfl rfl hD.1 rfl (by decide) (Nat.le_of_ble_eq_true rfl) (fun rcg1 cg1 hcg1 => ?_)
  obtain ⟨ecg1, q8, q9, tcg1⟩ := hcg1
  have Mcg1 : ce_rM cg1 d S := rM_kp hr (tcg1.1.trans hr.1.2.1.symm) tcg1.2.2.2.2.1.2 (tcg1.2.2.2.2.2 _ (by omega) (by omega)) (tcg1.2.2.2.2.2 _ (by omega) (by omega)) (tcg1.2.2.2.2.2 _ (by omega) (by omega)) (tcg1.2.2.2.2.2 _ (by omega) (by omega)) (tcg1.2.2.2.2.2 _ (by omega) (by omega))
  have ycg1 : ce_fr d (d + 11) g cg1 := fun x hx => tcg1.2.2.2.2.2 x (by omega) (by omega)
  have ecg1 : rcg1 = nI p := ecg1.trans (by rw [hp]; rfl)
  subst ecg1
  refine ce_ldc dX8_load_5 kRX8_65 ?_
  refine ce_icmp_neI (p := ((p : Nat) : Int)) (q := (-99999)) (tgt := 14) dX8_load_7 (by decide) (nI_toInt (by omega)) (by decide) (fun c_7 => ?_) (fun c_7 => ?_)
  · refine ce_iconst (v := nI (1)) dX8_load_14 (by decide) ?_
    refine ce_cVr dX8_load_15 hX8_refused kRX8_115 (m_X8_refused1 d hD) rfl rfl hD.1 rfl (by decide) (Nat.le_of_ble_eq_true rfl) (fun rcg2 cg2 hcg2 => ?_)
    obtain ⟨ecg2, hcg2⟩ := hcg2
    have ecg2 : rcg2 = nI 1 := ecg2
    subst ecg2
    have Mcg2 : ce_rM cg2 d S := by rw [hcg2]; exact rM_ref Mcg1
    have zcg2 : cg2 d 0 = nI 1 := by rw [hcg2]; exact ce_up_at _ _ _ _
    have ycg2 : ce_fr d (d + 11) g cg2 := fun x hx => by rw [hcg2, ce_up_ne _ _ _ (by omega)]; exact ycg1 x hx
    have tcg2 : cr_row (cg2 (d + 2)) (kq (kx_read (sT S) (sl S)).2) (fun _ => 0) := by rw [hcg2, ce_up_ne _ _ _ (by omega)]; exact tcg1.2.2.2.1
    refine ce_if_eqN (tgt := 23) dX8_load_18 (by decide) rfl (by omega) (fun c_18 => ?_) (fun c_18 => ?_)
    · omega
    · refine ce_iconst (v := nI (0)) dX8_load_21 (by decide) ?_
      refine ce_iret dX8_load_22 rfl rfl (by decide) (by decide) ?_
      exact ⟨_, rfl, rfl, zcg2, Mcg2, ycg2⟩
  · omega
theorem m_X8_fewestBins_ok {σ : ce_S} {g : ce_D} (d : Nat) (S : ks_S) (hD : ce_LM σ d) (hr : ce_rM g d S) (ok : ks_ok S) : ce_CT (ce_r 3) mX8_fewestBins [.ref d] σ g (ce_rv σ (fun z9 g1 => z9 = nI (kp_few (sK S)) ∧ g1 d 0 = nI 0 ∧ ce_rM g1 d S ∧ ce_fr d (d + 11) g g1)) ce_no := by
  refine ce_CTm (m_X8_fewestBins d (sK S) (sO S) hD ok.1 hr.2.1) ?_
  rintro v σ1 g1 ⟨z, rfl, rfl, hz, h⟩
  have ed : g1 d = ce_up g d 0 (nI 0) d := h d (by omega) (by omega)
  have f : ∀ x, x ≠ d → x ≠ d + 9 → x ≠ d + 10 → g1 x = g x := fun x h1 h2 h3 => (h x h2 h3).trans (ce_up_ne _ _ _ h1)
  refine ⟨z, rfl, rfl, hz, by rw [ed]; exact ce_up_at _ _ _ _, rM_kp hr (by rw [ed]; exact ce_up_j (by decide)) (by rw [ed]; exact ce_up_j (by decide)) (f _ (by omega) (by omega) (by omega)) (f _ (by omega) (by omega) (by omega)) (f _ (by omega) (by omega) (by omega)) (f _ (by omega) (by omega) (by omega)) (f _ (by omega) (by omega) (by omega)), fun x hx => f x (by omega) (by omega) (by omega)⟩
theorem n_layGot {σ : ce_S} {g0 : ce_D} {d r : Nat} {K : ce_V} {O : Nat → Int32} (hD : ce_LM σ d) (hA : ce_LA σ 10 r 189) (hk : kv_cl K) (hr : cr_row (g0 r) (kq K) O) (hrd : r ≠ d + 8) (w : Nat) (hw : w < K 0 1) (h5 : K 5 w = 0) : ce_CT (ce_r 2) mX8_layGot [.ref d, .ref r, .int (nI w)] σ g0 (ce_rv σ (fun _ g1 => (∀ m, m < 6 → g1 (d + 8) m = nI (kv_all K w 8 (m * 6 + w))) ∧ ∀ x, x ≠ d + 8 → g1 x = g0 x)) ce_no := by
  have hW := hk.wi
  obtain ⟨b0, b1, b2, b3, b4, b5, b6⟩ := kq_b hk
  have h8 : ∀ m, K 8 (m * 6 + w) = 0 := fun m => by
    by_cases e : m < 6
    · exact hk.z8 w (by omega) (by omega) m e
    · exact (hk.zm m w (by omega) (by have := hk.me; omega)).2.2.1
  refine ce_CTm (m_X8_layGot d r (kq K) O hD hA hr hrd w (by omega) b0 b3 b4 (b5 w (by omega)) (fun m => by rw [kq_ne (a := 8) (by decide)]; exact h8 m)) ?_
  rintro v σ1 g1 ⟨z, rfl, rfl, hz, _, h1, h2⟩
  refine ⟨z, rfl, rfl, fun m hm => ?_, h2⟩
  rw [h1 m hm, kq_share, kq_ne (a := 8) (by decide)]
  unfold kv_all
  rw [kv_up_ne (by decide), kv_end_ne (by decide)]
set_option maxHeartbeats 2000000 in
set_option maxRecDepth 20000 in
theorem m_X8_wouldGet_ok {σ : ce_S} {g : ce_D} (d : Nat) (S : ks_S) (hD : ce_LM σ d) (hr : ce_rM g d S) (ok : ks_ok S) (m w : Nat) (hm : m < sK S 0 0) (hw : w < sK S 0 1) (h5 : sK S 5 w = 0) : ce_CT (ce_r 5) mX8_wouldGet [.ref (d), .int (nI (m)), .int (nI (w))] σ g (ce_rv σ (fun z9 g1 => z9 = nI (kv_all (sK S) w 8 (m * 6 + w)) ∧ g1 d 0 = nI 0 ∧ ce_rM g1 d S ∧ ce_fr d (d + 11) g g1)) ce_no := by
  have hB := ok.1.i7
  have hM := ok.1.me
  have hW := ok.1.wi
  have hst := ok.1.st
  have h14 : sn S ≤ 14 := hr.2.2.1.1
  have h120 : sl S ≤ 120 := hr.1.1
  have em := nI_toInt (n := m) (by omega)
  have ew := nI_toInt (n := w) (by omega)
  have hs := hst w
  refine ce_enter (by decide) rfl (Nat.le_of_ble_eq_true rfl) (L := [some (.ref (d)), some (.int (nI (m))), some (.int (nI (w)))]) rfl ?_
  refine ce_aload_n dX8_wouldGet_0 rfl ?_
  refine ce_aload_n dX8_wouldGet_1 rfl ?_
  refine ce_iload_n dX8_wouldGet_2 rfl ?_
  refine ce_cVp dX8_wouldGet_3 hX8_isMember kRX8_174 (n_isMember d (sK S) (sO S) hD hr.2.1 (nI (m)) (by omega)) rfl rfl hD.1 rfl (by decide) (Nat.le_of_ble_eq_true rfl) ?_
  refine ce_if_eqB (tgt := 21) dX8_wouldGet_6 (by decide) rfl (fun c_6 => ?_) (fun c_6 => ?_)
  · refine ce_iconst (v := nI (1)) dX8_wouldGet_21 (by decide) ?_
    exfalso
    (try unfold ce_in at *)
    omega
  · refine ce_aload_n dX8_wouldGet_9 rfl ?_
    refine ce_iload_n dX8_wouldGet_10 rfl ?_
    refine ce_cVp dX8_wouldGet_11 hX8_isWine kRX8_182 (n_isWine d (sK S) (sO S) hD hr.2.1 (nI (w)) (by omega)) rfl rfl hD.1 rfl (by decide) (Nat.le_of_ble_eq_true rfl) ?_
    refine ce_if_eqB (tgt := 21) dX8_wouldGet_14 (by decide) rfl (fun c_14 => ?_) (fun c_14 => ?_)
    · refine ce_iconst (v := nI (1)) dX8_wouldGet_21 (by decide) ?_
      exfalso
      (try unfold ce_in at *)
      omega
    · refine ce_iconst (v := nI (0)) dX8_wouldGet_17 (by decide) ?_
      refine ce_goto (tgt := 22) dX8_wouldGet_18 (by decide) ?_
      refine ce_cVr dX8_wouldGet_22 hX8_refused kRX8_115 (m_X8_refused0 d hD) rfl rfl hD.1 rfl (by decide) (Nat.le_of_ble_eq_true rfl) (fun rcg1 cg1 hcg1 => ?_)
      obtain ⟨ecg1, hcg1⟩ := hcg1
      have ecg1 : rcg1 = nI 0 := ecg1
      subst ecg1
      have Mcg1 : ce_rM cg1 d S := by rw [hcg1]; exact rM_ref hr
      have zcg1 : cg1 d 0 = nI 0 := by rw [hcg1]; exact ce_up_at _ _ _ _
      have ycg1 : ce_fr d (d + 11) g cg1 := fun x hx => by rw [hcg1]; exact ce_up_ne _ _ _ (by omega)
      refine ce_if_eqN (tgt := 30) dX8_wouldGet_25 (by decide) rfl (by omega) (fun c_25 => ?_) (fun c_25 => ?_)
      · refine ce_aload_n dX8_wouldGet_30 rfl ?_
        refine ce_getR dX8_wouldGet_31 fRX8_16 hD.1 hD.2.1.2.2.1 ?_
        refine ce_iload_n dX8_wouldGet_34 rfl ?_
        refine ce_cSp dX8_wouldGet_35 hX8_wineAt kRX8_62 (m_X8_wineAt (w)) rfl rfl (by decide) (Nat.le_of_ble_eq_true rfl) ?_
        refine ce_iconst (v := nI (3)) dX8_wouldGet_38 (by decide) ?_
        refine ce_iadd (z := nI (21 + 6 * w + 3)) dX8_wouldGet_39 (nI_add _ _) ?_
        refine ce_ialdv dX8_wouldGet_40 (hD.2.2.2.2.1).1 rfl (hD.2.2.2.2.1).2 (by omega) (by decide) (((Mcg1.2.1).w3 (by omega)).trans (congrArg nI (by rw [kq_ne (by decide)]))) ?_
        refine ce_if_eqN (tgt := 47) dX8_wouldGet_41 (by decide) rfl (by omega) (fun c_41 => ?_) (fun c_41 => ?_)
        · refine ce_aload_n dX8_wouldGet_47 rfl ?_
          refine ce_aload_n dX8_wouldGet_48 rfl ?_
          refine ce_getR dX8_wouldGet_49 fRX8_16 hD.1 hD.2.1.2.2.1 ?_
          refine ce_iload_n dX8_wouldGet_52 rfl ?_
          refine ce_cVr dX8_wouldGet_53 hX8_layGot kRX8_86 (n_layGot hD ⟨(hD.2.2.2.2.1).1, (hD.2.2.2.2.1).2⟩ ok.1 Mcg1.2.1 (by omega) (w) (by omega) (by omega)) rfl rfl hD.1 rfl (by decide) (Nat.le_of_ble_eq_true rfl) (fun rcg2 cg2 hcg2 => ?_)
          have Mcg2 : ce_rM cg2 d S := rM_kp Mcg1 (congrFun (hcg2.2 d (by omega)) 2) (congrFun (hcg2.2 d (by omega)) 9) (hcg2.2 _ (by omega)) (hcg2.2 _ (by omega)) (hcg2.2 _ (by omega)) (hcg2.2 _ (by omega)) (hcg2.2 _ (by omega))
          have zcg2 : cg2 d 0 = nI 0 := (congrFun (hcg2.2 d (by omega)) 0).trans zcg1
          have ycg2 : ce_fr d (d + 11) g cg2 := fun x hx => (hcg2.2 x (by omega)).trans (ycg1 x hx)
          refine ce_pop dX8_wouldGet_56 rfl ?_
          refine ce_aload_n dX8_wouldGet_57 rfl ?_
          refine ce_getR dX8_wouldGet_58 fRX8_32 hD.1 hD.2.1.2.2.2.2.2.2.2.1 ?_
          refine ce_iload_n dX8_wouldGet_61 rfl ?_
          refine ce_ialdv dX8_wouldGet_62 (hD.2.2.2.2.2.2.2.2.2.1).1 rfl (hD.2.2.2.2.2.2.2.2.2.1).2 (by omega) (by decide) (hcg2.1 m (by omega)) ?_
          refine ce_iret dX8_wouldGet_63 rfl rfl (by decide) (by decide) ?_
          exact ⟨_, rfl, rfl, rfl, zcg2, Mcg2, ycg2⟩
        · omega
      · omega
set_option maxHeartbeats 2000000 in
set_option maxRecDepth 20000 in
theorem m_X8_wouldGet_ok2 {σ : ce_S} {g : ce_D} (d : Nat) (S : ks_S) (hD : ce_LM σ d) (hr : ce_rM g d S) (ok : ks_ok S) (m w : Nat) (hm : m < sK S 0 0) (hw : w < sK S 0 1) (h5 : sK S 5 w ≠ 0) : ce_CT (ce_r 5) mX8_wouldGet [.ref (d), .int (nI (m)), .int (nI (w))] σ g (ce_rv σ (fun z9 g1 => z9 = -99999 ∧ g1 d 0 = nI 0 ∧ ce_rM g1 d S ∧ ce_fr d (d + 11) g g1)) ce_no := by
  have hB := ok.1.i7
  have hM := ok.1.me
  have hW := ok.1.wi
  have hst := ok.1.st
  have h14 : sn S ≤ 14 := hr.2.2.1.1
  have h120 : sl S ≤ 120 := hr.1.1
  have em := nI_toInt (n := m) (by omega)
  have ew := nI_toInt (n := w) (by omega)
  have hs := hst w
  refine ce_enter (by decide) rfl (Nat.le_of_ble_eq_true rfl) (L := [some (.ref (d)), some (.int (nI (m))), some (.int (nI (w)))]) rfl ?_
  refine ce_aload_n dX8_wouldGet_0 rfl ?_
  refine ce_aload_n dX8_wouldGet_1 rfl ?_
  refine ce_iload_n dX8_wouldGet_2 rfl ?_
  refine ce_cVp dX8_wouldGet_3 hX8_isMember kRX8_174 (n_isMember d (sK S) (sO S) hD hr.2.1 (nI (m)) (by omega)) rfl rfl hD.1 rfl (by decide) (Nat.le_of_ble_eq_true rfl) ?_
  refine ce_if_eqB (tgt := 21) dX8_wouldGet_6 (by decide) rfl (fun c_6 => ?_) (fun c_6 => ?_)
  · refine ce_iconst (v := nI (1)) dX8_wouldGet_21 (by decide) ?_
    exfalso
    (try unfold ce_in at *)
    omega
  · refine ce_aload_n dX8_wouldGet_9 rfl ?_
    refine ce_iload_n dX8_wouldGet_10 rfl ?_
    refine ce_cVp dX8_wouldGet_11 hX8_isWine kRX8_182 (n_isWine d (sK S) (sO S) hD hr.2.1 (nI (w)) (by omega)) rfl rfl hD.1 rfl (by decide) (Nat.le_of_ble_eq_true rfl) ?_
    refine ce_if_eqB (tgt := 21) dX8_wouldGet_14 (by decide) rfl (fun c_14 => ?_) (fun c_14 => ?_)
    · refine ce_iconst (v := nI (1)) dX8_wouldGet_21 (by decide) ?_
      exfalso
      (try unfold ce_in at *)
      omega
    · refine ce_iconst (v := nI (0)) dX8_wouldGet_17 (by decide) ?_
      refine ce_goto (tgt := 22) dX8_wouldGet_18 (by decide) ?_
      refine ce_cVr dX8_wouldGet_22 hX8_refused kRX8_115 (m_X8_refused0 d hD) rfl rfl hD.1 rfl (by decide) (Nat.le_of_ble_eq_true rfl) (fun rcg1 cg1 hcg1 => ?_)
      obtain ⟨ecg1, hcg1⟩ := hcg1
      have ecg1 : rcg1 = nI 0 := ecg1
      subst ecg1
      have Mcg1 : ce_rM cg1 d S := by rw [hcg1]; exact rM_ref hr
      have zcg1 : cg1 d 0 = nI 0 := by rw [hcg1]; exact ce_up_at _ _ _ _
      have ycg1 : ce_fr d (d + 11) g cg1 := fun x hx => by rw [hcg1]; exact ce_up_ne _ _ _ (by omega)
      refine ce_if_eqN (tgt := 30) dX8_wouldGet_25 (by decide) rfl (by omega) (fun c_25 => ?_) (fun c_25 => ?_)
      · refine ce_aload_n dX8_wouldGet_30 rfl ?_
        refine ce_getR dX8_wouldGet_31 fRX8_16 hD.1 hD.2.1.2.2.1 ?_
        refine ce_iload_n dX8_wouldGet_34 rfl ?_
        refine ce_cSp dX8_wouldGet_35 hX8_wineAt kRX8_62 (m_X8_wineAt (w)) rfl rfl (by decide) (Nat.le_of_ble_eq_true rfl) ?_
        refine ce_iconst (v := nI (3)) dX8_wouldGet_38 (by decide) ?_
        refine ce_iadd (z := nI (21 + 6 * w + 3)) dX8_wouldGet_39 (nI_add _ _) ?_
        refine ce_ialdv dX8_wouldGet_40 (hD.2.2.2.2.1).1 rfl (hD.2.2.2.2.1).2 (by omega) (by decide) (((Mcg1.2.1).w3 (by omega)).trans (congrArg nI (by rw [kq_ne (by decide)]))) ?_
        refine ce_if_eqN (tgt := 47) dX8_wouldGet_41 (by decide) rfl (by omega) (fun c_41 => ?_) (fun c_41 => ?_)
        · omega
        · refine ce_ldc dX8_wouldGet_44 kRX8_65 ?_
          refine ce_iret dX8_wouldGet_46 rfl rfl (by decide) (by decide) ?_
          exact ⟨_, rfl, rfl, rfl, zcg1, Mcg1, ycg1⟩
      · omega
set_option maxHeartbeats 2000000 in
set_option maxRecDepth 20000 in
theorem m_X8_shortest_ok2 {σ : ce_S} {g : ce_D} (d : Nat) (S : ks_S) (hD : ce_LM σ d) (hr : ce_rM g d S) (ok : ks_ok S) (w : Nat) (hw : w < sK S 0 1) (h5 : sK S 5 w ≠ 0) : ce_CT (ce_r 5) mX8_shortest [.ref (d), .int (nI (w))] σ g (ce_rv σ (fun z9 g1 => z9 = -99999 ∧ g1 d 0 = nI 0 ∧ ce_rM g1 d S ∧ ce_fr d (d + 11) g g1)) ce_no := by
  have hB := ok.1.i7
  have hM := ok.1.me
  have hW := ok.1.wi
  have hst := ok.1.st
  have h14 : sn S ≤ 14 := hr.2.2.1.1
  have h120 : sl S ≤ 120 := hr.1.1
  have ew := nI_toInt (n := w) (by omega)
  have hs := hst w
  refine ce_enter (by decide) rfl (Nat.le_of_ble_eq_true rfl) (L := [some (.ref (d)), some (.int (nI (w))), none, none, none, none]) rfl ?_
  refine ce_aload_n dX8_shortest_0 rfl ?_
  refine ce_aload_n dX8_shortest_1 rfl ?_
  refine ce_iload_n dX8_shortest_2 rfl ?_
  refine ce_cVp dX8_shortest_3 hX8_isWine kRX8_182 (n_isWine d (sK S) (sO S) hD hr.2.1 (nI (w)) (by omega)) rfl rfl hD.1 rfl (by decide) (Nat.le_of_ble_eq_true rfl) ?_
  refine ce_if_eqB (tgt := 13) dX8_shortest_6 (by decide) rfl (fun c_6 => ?_) (fun c_6 => ?_)
  · refine ce_iconst (v := nI (1)) dX8_shortest_13 (by decide) ?_
    exfalso
    (try unfold ce_in at *)
    omega
  · refine ce_iconst (v := nI (0)) dX8_shortest_9 (by decide) ?_
    refine ce_goto (tgt := 14) dX8_shortest_10 (by decide) ?_
    refine ce_cVr dX8_shortest_14 hX8_refused kRX8_115 (m_X8_refused0 d hD) rfl rfl hD.1 rfl (by decide) (Nat.le_of_ble_eq_true rfl) (fun rcg1 cg1 hcg1 => ?_)
    obtain ⟨ecg1, hcg1⟩ := hcg1
    have ecg1 : rcg1 = nI 0 := ecg1
    subst ecg1
    have Mcg1 : ce_rM cg1 d S := by rw [hcg1]; exact rM_ref hr
    have zcg1 : cg1 d 0 = nI 0 := by rw [hcg1]; exact ce_up_at _ _ _ _
    have ycg1 : ce_fr d (d + 11) g cg1 := fun x hx => by rw [hcg1]; exact ce_up_ne _ _ _ (by omega)
    refine ce_if_eqN (tgt := 22) dX8_shortest_17 (by decide) rfl (by omega) (fun c_17 => ?_) (fun c_17 => ?_)
    · refine ce_aload_n dX8_shortest_22 rfl ?_
      refine ce_getR dX8_shortest_23 fRX8_16 hD.1 hD.2.1.2.2.1 ?_
      refine ce_iload_n dX8_shortest_26 rfl ?_
      refine ce_cSp dX8_shortest_27 hX8_wineAt kRX8_62 (m_X8_wineAt (w)) rfl rfl (by decide) (Nat.le_of_ble_eq_true rfl) ?_
      refine ce_iconst (v := nI (3)) dX8_shortest_30 (by decide) ?_
      refine ce_iadd (z := nI (21 + 6 * w + 3)) dX8_shortest_31 (nI_add _ _) ?_
      refine ce_ialdv dX8_shortest_32 (hD.2.2.2.2.1).1 rfl (hD.2.2.2.2.1).2 (by omega) (by decide) (((Mcg1.2.1).w3 (by omega)).trans (congrArg nI (by rw [kq_ne (by decide)]))) ?_
      refine ce_if_eqN (tgt := 39) dX8_shortest_33 (by decide) rfl (by omega) (fun c_33 => ?_) (fun c_33 => ?_)
      · omega
      · refine ce_ldc dX8_shortest_36 kRX8_65 ?_
        refine ce_iret dX8_shortest_38 rfl rfl (by decide) (by decide) ?_
        exact ⟨_, rfl, rfl, rfl, zcg1, Mcg1, ycg1⟩
    · omega
set_option maxHeartbeats 2000000 in
set_option maxRecDepth 20000 in
theorem w_X8_shortest {σ : ce_S} {g : ce_D} (d : Nat) (S : ks_S) (hD : ce_LM σ d) (hr : ce_rM g d S) (ok : ks_ok S) (g0 : ce_D) (w : Nat) (hw6 : w < 6) (hc : ∀ m, m < 6 → g (d + 8) m = nI (kv_all (sK S) w 8 (m * 6 + w))) (h0 : g d 0 = nI 0) (hf : ce_fr d (d + 11) g0 g) : ∀ (n9 : Nat) (i : Nat), sK S 0 0 - i < n9 → i ≤ sK S 0 0 → ce_WP (ce_r 5) mX8_shortest 0 0 57 [some (.ref (d)), some (.int (nI (w))), some (.int (ce_o ((kx_sh (sK S) w i).1))), some (.int (nI ((kx_sh (sK S) w i).2))), some (.int (nI (i))), none] [] σ g (ce_rv σ (fun z9 g1 => z9 = ce_o (kx_sh (sK S) w (sK S 0 0)).1 ∧ g1 d 0 = nI 0 ∧ ce_rM g1 d S ∧ ce_fr d (d + 11) g0 g1)) ce_no := by
  intro n9
  induction n9 with
  | zero =>
    intros
    omega
  | succ n9 ih =>
    intro i hm hi
    have hM := ok.1.me
    have hs := kx_sh_le (w := w) ok.1.od i
    have h7 := ok.1.od (i * 6 + w)
    have h8 := kv_all_8 ok.1 hw6 i
    refine ce_iload dX8_shortest_57 rfl ?_
    refine ce_aload_n dX8_shortest_59 rfl ?_
    refine ce_getR dX8_shortest_60 fRX8_16 hD.1 hD.2.1.2.2.1 ?_
    refine ce_iconst (v := nI (0)) dX8_shortest_63 (by decide) ?_
    refine ce_ialdv dX8_shortest_64 (hD.2.2.2.2.1).1 rfl (hD.2.2.2.2.1).2 (by omega) (by decide) (((hr.2.1).c0).trans (congrArg nI (by rw [kq_ne (by decide)]))) ?_
    refine ce_icmp_geN (tgt := 121) dX8_shortest_65 (by decide) rfl rfl (by omega) (by omega) (fun c_65 => ?_) (fun c_65 => ?_)
    · refine ce_iload_n dX8_shortest_121 rfl ?_
      refine ce_iret dX8_shortest_122 rfl rfl (by decide) (by decide) ?_
      exact ⟨_, rfl, rfl, by rw [show i = sK S 0 0 by omega], h0, hr, hf⟩
    · refine ce_aload_n dX8_shortest_68 rfl ?_
      refine ce_getR dX8_shortest_69 fRX8_16 hD.1 hD.2.1.2.2.1 ?_
      refine ce_iload dX8_shortest_72 rfl ?_
      refine ce_iload_n dX8_shortest_74 rfl ?_
      refine ce_cSp dX8_shortest_75 hX8_hold kRX8_54 (m_X8_hold (i) (w)) rfl rfl (by decide) (Nat.le_of_ble_eq_true rfl) ?_
      refine ce_ialdv dX8_shortest_78 (hD.2.2.2.2.1).1 rfl (hD.2.2.2.2.1).2 (by omega) (by decide) (((hr.2.1).h0 (by omega) (by omega)).trans (congrArg nI (by rw [kq_ne (by decide)]))) ?_
      refine ce_aload_n dX8_shortest_79 rfl ?_
      refine ce_getR dX8_shortest_80 fRX8_32 hD.1 hD.2.1.2.2.2.2.2.2.2.1 ?_
      refine ce_iload dX8_shortest_83 rfl ?_
      refine ce_ialdv dX8_shortest_85 (hD.2.2.2.2.2.2.2.2.2.1).1 rfl (hD.2.2.2.2.2.2.2.2.2.1).2 (by omega) (by decide) (hc i (by omega)) ?_
      refine ce_isub (z := nI (sK S 7 (i * 6 + w)) - nI (kv_all (sK S) w 8 (i * 6 + w))) dX8_shortest_86 rfl ?_
      refine ce_istore dX8_shortest_87 (Nat.le_of_ble_eq_true rfl) rfl ?_
      refine ce_iload dX8_shortest_89 rfl ?_
      refine ce_iload_n dX8_shortest_91 rfl ?_
      refine ce_icmp_leI (p := (((sK S 7 (i * 6 + w) : Nat) : Int) - ((kv_all (sK S) w 8 (i * 6 + w) : Nat) : Int))) (q := (((kx_sh (sK S) w i).2 : Nat) : Int)) (tgt := 100) dX8_shortest_92 (by decide) (pk_sub_toInt (by omega) (by omega)) (nI_toInt (by omega)) (fun c_92 => ?_) (fun c_92 => ?_)
      · refine ce_iload_n dX8_shortest_100 rfl ?_
        refine ce_istore_n dX8_shortest_101 (Nat.le_of_ble_eq_true rfl) rfl ?_
        refine ce_iload dX8_shortest_102 rfl ?_
        refine ce_iload_n dX8_shortest_104 rfl ?_
        refine ce_icmp_leI (p := (((sK S 7 (i * 6 + w) : Nat) : Int) - ((kv_all (sK S) w 8 (i * 6 + w) : Nat) : Int))) (q := (((kx_sh (sK S) w i).2 : Nat) : Int)) (tgt := 113) dX8_shortest_105 (by decide) (pk_sub_toInt (by omega) (by omega)) (nI_toInt (by omega)) (fun c_105 => ?_) (fun c_105 => ?_)
        · refine ce_iload_n dX8_shortest_113 rfl ?_
          refine ce_istore_n dX8_shortest_114 (Nat.le_of_ble_eq_true rfl) rfl ?_
          refine ce_iinc (v := nI (i + 1)) dX8_shortest_115 rfl (ce_inc1 _) (Nat.le_of_ble_eq_true rfl) rfl ?_
          refine ce_goto (tgt := 57) dX8_shortest_118 (by decide) ?_
          refine ce_drop (L' := [some (.ref (d)), some (.int (nI (w))), some (.int (ce_o ((kx_sh (sK S) w i).1))), some (.int (nI ((kx_sh (sK S) w i).2))), some (.int (nI (i + 1))), none]) (ce_le_s rfl (ce_le_s rfl (ce_le_s rfl (ce_le_s rfl (ce_le_s rfl (ce_le_n ce_le_e)))))) ?_
          have e9 : kx_sh (sK S) w (i + 1) = kx_sh (sK S) w i := if_neg (by omega)
          have e8 := ih (i + 1) (by omega) (by omega)
          rw [e9] at e8
          exact e8
        · omega
      · rw [pk_sub (a := sK S 7 (i * 6 + w)) (b := kv_all (sK S) w 8 (i * 6 + w)) (by omega)]
        refine ce_iload dX8_shortest_95 rfl ?_
        refine ce_goto (tgt := 101) dX8_shortest_97 (by decide) ?_
        refine ce_istore_n dX8_shortest_101 (Nat.le_of_ble_eq_true rfl) rfl ?_
        refine ce_iload dX8_shortest_102 rfl ?_
        refine ce_iload_n dX8_shortest_104 rfl ?_
        refine ce_icmp_leN (tgt := 113) dX8_shortest_105 (by decide) rfl rfl (by omega) (by omega) (fun c_105 => ?_) (fun c_105 => ?_)
        · omega
        · refine ce_iload dX8_shortest_108 rfl ?_
          refine ce_goto (tgt := 114) dX8_shortest_110 (by decide) ?_
          refine ce_istore_n dX8_shortest_114 (Nat.le_of_ble_eq_true rfl) rfl ?_
          refine ce_iinc (v := nI (i + 1)) dX8_shortest_115 rfl (ce_inc1 _) (Nat.le_of_ble_eq_true rfl) rfl ?_
          refine ce_goto (tgt := 57) dX8_shortest_118 (by decide) ?_
          refine ce_drop (L' := [some (.ref (d)), some (.int (nI (w))), some (.int (nI (i))), some (.int (nI (sK S 7 (i * 6 + w) - kv_all (sK S) w 8 (i * 6 + w)))), some (.int (nI (i + 1))), none]) (ce_le_s rfl (ce_le_s rfl (ce_le_s rfl (ce_le_s rfl (ce_le_s rfl (ce_le_n ce_le_e)))))) ?_
          have e9 : kx_sh (sK S) w (i + 1) = (some i, sK S 7 (i * 6 + w) - kv_all (sK S) w 8 (i * 6 + w)) := if_pos (by omega)
          have e8 := ih (i + 1) (by omega) (by omega)
          rw [e9] at e8
          exact e8
set_option maxHeartbeats 2000000 in
set_option maxRecDepth 20000 in
theorem m_X8_shortest_ok {σ : ce_S} {g : ce_D} (d : Nat) (S : ks_S) (hD : ce_LM σ d) (hr : ce_rM g d S) (ok : ks_ok S) (w : Nat) (hw : w < sK S 0 1) (h5 : sK S 5 w = 0) : ce_CT (ce_r 5) mX8_shortest [.ref (d), .int (nI (w))] σ g (ce_rv σ (fun z9 g1 => z9 = ce_o (kx_sh (sK S) w (sK S 0 0)).1 ∧ g1 d 0 = nI 0 ∧ ce_rM g1 d S ∧ ce_fr d (d + 11) g g1)) ce_no := by
  have hB := ok.1.i7
  have hM := ok.1.me
  have hW := ok.1.wi
  have hst := ok.1.st
  have h14 : sn S ≤ 14 := hr.2.2.1.1
  have h120 : sl S ≤ 120 := hr.1.1
  have ew := nI_toInt (n := w) (by omega)
  have hs := hst w
  refine ce_enter (by decide) rfl (Nat.le_of_ble_eq_true rfl) (L := [some (.ref (d)), some (.int (nI (w))), none, none, none, none]) rfl ?_
  refine ce_aload_n dX8_shortest_0 rfl ?_
  refine ce_aload_n dX8_shortest_1 rfl ?_
  refine ce_iload_n dX8_shortest_2 rfl ?_
  refine ce_cVp dX8_shortest_3 hX8_isWine kRX8_182 (n_isWine d (sK S) (sO S) hD hr.2.1 (nI (w)) (by omega)) rfl rfl hD.1 rfl (by decide) (Nat.le_of_ble_eq_true rfl) ?_
  refine ce_if_eqB (tgt := 13) dX8_shortest_6 (by decide) rfl (fun c_6 => ?_) (fun c_6 => ?_)
  · refine ce_iconst (v := nI (1)) dX8_shortest_13 (by decide) ?_
    exfalso
    (try unfold ce_in at *)
    omega
  · refine ce_iconst (v := nI (0)) dX8_shortest_9 (by decide) ?_
    refine ce_goto (tgt := 14) dX8_shortest_10 (by decide) ?_
    refine ce_cVr dX8_shortest_14 hX8_refused kRX8_115 (m_X8_refused0 d hD) rfl rfl hD.1 rfl (by decide) (Nat.le_of_ble_eq_true rfl) (fun rcg1 cg1 hcg1 => ?_)
    obtain ⟨ecg1, hcg1⟩ := hcg1
    have ecg1 : rcg1 = nI 0 := ecg1
    subst ecg1
    have Mcg1 : ce_rM cg1 d S := by rw [hcg1]; exact rM_ref hr
    have zcg1 : cg1 d 0 = nI 0 := by rw [hcg1]; exact ce_up_at _ _ _ _
    have ycg1 : ce_fr d (d + 11) g cg1 := fun x hx => by rw [hcg1]; exact ce_up_ne _ _ _ (by omega)
    refine ce_if_eqN (tgt := 22) dX8_shortest_17 (by decide) rfl (by omega) (fun c_17 => ?_) (fun c_17 => ?_)
    · refine ce_aload_n dX8_shortest_22 rfl ?_
      refine ce_getR dX8_shortest_23 fRX8_16 hD.1 hD.2.1.2.2.1 ?_
      refine ce_iload_n dX8_shortest_26 rfl ?_
      refine ce_cSp dX8_shortest_27 hX8_wineAt kRX8_62 (m_X8_wineAt (w)) rfl rfl (by decide) (Nat.le_of_ble_eq_true rfl) ?_
      refine ce_iconst (v := nI (3)) dX8_shortest_30 (by decide) ?_
      refine ce_iadd (z := nI (21 + 6 * w + 3)) dX8_shortest_31 (nI_add _ _) ?_
      refine ce_ialdv dX8_shortest_32 (hD.2.2.2.2.1).1 rfl (hD.2.2.2.2.1).2 (by omega) (by decide) (((Mcg1.2.1).w3 (by omega)).trans (congrArg nI (by rw [kq_ne (by decide)]))) ?_
      refine ce_if_eqN (tgt := 39) dX8_shortest_33 (by decide) rfl (by omega) (fun c_33 => ?_) (fun c_33 => ?_)
      · refine ce_aload_n dX8_shortest_39 rfl ?_
        refine ce_aload_n dX8_shortest_40 rfl ?_
        refine ce_getR dX8_shortest_41 fRX8_16 hD.1 hD.2.1.2.2.1 ?_
        refine ce_iload_n dX8_shortest_44 rfl ?_
        refine ce_cVr dX8_shortest_45 hX8_layGot kRX8_86 (n_layGot hD ⟨(hD.2.2.2.2.1).1, (hD.2.2.2.2.1).2⟩ ok.1 Mcg1.2.1 (by omega) (w) (by omega) (by omega)) rfl rfl hD.1 rfl (by decide) (Nat.le_of_ble_eq_true rfl) (fun rcg2 cg2 hcg2 => ?_)
        have Mcg2 : ce_rM cg2 d S := rM_kp Mcg1 (congrFun (hcg2.2 d (by omega)) 2) (congrFun (hcg2.2 d (by omega)) 9) (hcg2.2 _ (by omega)) (hcg2.2 _ (by omega)) (hcg2.2 _ (by omega)) (hcg2.2 _ (by omega)) (hcg2.2 _ (by omega))
        have zcg2 : cg2 d 0 = nI 0 := (congrFun (hcg2.2 d (by omega)) 0).trans zcg1
        have ycg2 : ce_fr d (d + 11) g cg2 := fun x hx => (hcg2.2 x (by omega)).trans (ycg1 x hx)
        refine ce_pop dX8_shortest_48 rfl ?_
        refine ce_ldc dX8_shortest_49 kRX8_65 ?_
        refine ce_istore_n dX8_shortest_51 (Nat.le_of_ble_eq_true rfl) rfl ?_
        refine ce_iconst (v := nI (0)) dX8_shortest_52 (by decide) ?_
        refine ce_istore_n dX8_shortest_53 (Nat.le_of_ble_eq_true rfl) rfl ?_
        refine ce_iconst (v := nI (0)) dX8_shortest_54 (by decide) ?_
        refine ce_istore dX8_shortest_55 (Nat.le_of_ble_eq_true rfl) rfl ?_
        exact w_X8_shortest d S hD Mcg2 ok g w (by omega) hcg2.1 zcg2 ycg2 (sK S 0 0 + 1) 0 (by omega) (by omega)
      · omega
    · omega
