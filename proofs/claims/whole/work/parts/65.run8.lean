theorem ce_cSj {Y Y' : ce_Y} {kc ks pc : Nat} {ρ ρ' : Room} {L : List (Option Value)} {σ : ce_S} {g : ce_D} {Q : Option Value → ce_S → ce_D → Prop} {X : String → ce_S → ce_D → Prop} {n idx : Nat} {stk As rest : List Value} {r : Int64} (d : decode Y.2.1 pc = .ok (.invokestatic idx, 3)) (hY : ce_MS Y' n) (hl : Cond.methodLink Y.1.cls idx Y'.1 ∈ lw_tbl) (hC : ce_CT ρ' Y' As σ g (ce_jv r σ g) ce_no) (hst : stk = As.reverse ++ rest) (hn : As.length = n) (hR : ce_rz ρ ρ' Y'.2.2.1 kc ks) (hrest : (rest.map fun v => v.category).sum ≤ 8) (kk : ce_WP ρ Y kc ks (pc + 3) L (.long r :: rest) σ g Q X) : ce_WP ρ Y kc ks pc L stk σ g Q X := by
  obtain ⟨hR1, hz1, hz2, hk1, hk2⟩ := hR
  refine ce_callS d hY hl hC hst hn hR1 hrest (by rw [hz1]; exact hk1) (by rw [hz2]; exact hk2) ?_
  rw [hz1, hz2]
  rintro v σ1 g1 ⟨rfl, rfl, rfl⟩
  exact kk
theorem kx_scr1 (t : Int64) : kx_scr (nI 1) t = if (0 : Int) ≤ t.toInt ∧ t.toInt ≤ 99999 then 0 else 2 := by
  have e1 : (nI 1).toInt = 1 := by decide
  have e2 : (100000 : Int) ^ ce_n (nI 1) = 100000 := by decide
  unfold kx_scr
  rw [e1, e2]
  by_cases q : 0 ≤ t.toInt ∧ t.toInt ≤ 99999
  · rw [if_pos q]; exact if_pos (by omega)
  · rw [if_neg q]; exact if_neg (by omega)
theorem kx_scr2 (t : Int64) : kx_scr (nI 2) t = if (0 : Int) ≤ t.toInt ∧ t.toInt ≤ 9999999999 then 0 else 2 := by
  have e1 : (nI 2).toInt = 2 := by decide
  have e2 : (100000 : Int) ^ ce_n (nI 2) = 10000000000 := by decide
  unfold kx_scr
  rw [e1, e2]
  by_cases q : 0 ≤ t.toInt ∧ t.toInt ≤ 9999999999
  · rw [if_pos q]; exact if_pos (by omega)
  · rw [if_neg q]; exact if_neg (by omega)
theorem kx_scr3 (t : Int64) : kx_scr (nI 3) t = if (0 : Int) ≤ t.toInt ∧ t.toInt ≤ 999999999999999 then 0 else 2 := by
  have e1 : (nI 3).toInt = 3 := by decide
  have e2 : (100000 : Int) ^ ce_n (nI 3) = 1000000000000000 := by decide
  unfold kx_scr
  rw [e1, e2]
  by_cases q : 0 ≤ t.toInt ∧ t.toInt ≤ 999999999999999
  · rw [if_pos q]; exact if_pos (by omega)
  · rw [if_neg q]; exact if_neg (by omega)
theorem rM_tr {g g1 : ce_D} {d : Nat} {S : ks_S} (h : ce_rM g d S) (f : ∀ x, x ≠ d + 4 → x ≠ d + 8 → g1 x = g x) : ce_rM g1 d S := rM_kp h (congrFun (f d (by omega) (by omega)) 2) (congrFun (f d (by omega) (by omega)) 9) (f _ (by omega) (by omega)) (f _ (by omega) (by omega)) (f _ (by omega) (by omega)) (f _ (by omega) (by omega)) (f _ (by omega) (by omega))
set_option maxHeartbeats 2000000 in
set_option maxRecDepth 20000 in
theorem m_X8_runScript_ok1 {σ : ce_S} {g : ce_D} (d : Nat) (S : ks_S) (hD : ce_LM σ d) (hr : ce_rM g d S) (ok : ks_ok S) (X : Nat) (hX63 : X < 2 ^ 63) (hf : kx_scr (nI (1)) (lN X) = 0) : ce_CT (ce_r 6) mX8_runScript [.ref (d), .int (nI (1)), .long (lN X)] σ g (ce_rv σ (fun z9 g1 => z9 = ce_o (kx_run (sK S) [X % 100000] 0) ∧ g1 d 0 = nI 0 ∧ ce_rM g1 d S ∧ ce_fr d (d + 11) g g1)) ce_no := by
  have hB := ok.1.i7
  have hM := ok.1.me
  have hW := ok.1.wi
  have hst := ok.1.st
  have h14 : sn S ≤ 14 := hr.2.2.1.1
  have h120 : sl S ≤ 120 := hr.1.1
  refine ce_enter (by decide) rfl (Nat.le_of_ble_eq_true rfl) (L := [some (.ref (d)), some (.int (nI (1))), some (.long (lN X)), none, none, none]) rfl ?_
  refine ce_iload_n dX8_runScript_0 rfl ?_
  refine ce_i2l (v := (nI (1)).toInt64) dX8_runScript_1 rfl ?_
  refine ce_lconst (v := 1) dX8_runScript_2 (by decide) ?_
  refine ce_ldc2 dX8_runScript_3 kRX8_177 ?_
  refine ce_cSp dX8_runScript_6 hX8_in kRX8_108 (m_X8_in ((nI (1)).toInt64) (1) (3) ((1 : Int) ≤ ((1 : Nat) : Int) ∧ ((1 : Nat) : Int) ≤ (3 : Int)) (cr_io ((cr_tl (nI (1))).trans (nI_toInt (by omega))) (by decide) (by decide))) rfl rfl (by decide) (Nat.le_of_ble_eq_true rfl) ?_
  refine ce_istore dX8_runScript_9 (Nat.le_of_ble_eq_true rfl) rfl ?_
  refine ce_aload_n dX8_runScript_11 rfl ?_
  refine ce_iload dX8_runScript_12 rfl ?_
  refine ce_if_eqB (tgt := 46) dX8_runScript_14 (by decide) rfl (fun c_14 => ?_) (fun c_14 => ?_)
  · omega
  · refine ce_lload_n dX8_runScript_17 rfl ?_
    refine ce_lconst (v := 0) dX8_runScript_18 (by decide) ?_
    refine ce_iload dX8_runScript_19 rfl ?_
    refine ce_if_eqB (tgt := 30) dX8_runScript_21 (by decide) rfl (fun c_21 => ?_) (fun c_21 => ?_)
    · omega
    · refine ce_iconst (v := nI (5)) dX8_runScript_24 (by decide) ?_
      refine ce_iload_n dX8_runScript_25 rfl ?_
      refine ce_imul (z := nI (5)) dX8_runScript_26 (pk_mul _ _) ?_
      refine ce_goto (tgt := 31) dX8_runScript_27 (by decide) ?_
      refine ce_cSj dX8_runScript_31 hX8_tenTo kRX8_244 (m_X8_tenTo (5) (by omega)) rfl rfl (by decide) (Nat.le_of_ble_eq_true rfl) ?_
      refine ce_lconst (v := 1) dX8_runScript_34 (by decide) ?_
      refine ce_lsub (z := 99999) dX8_runScript_35 (by first | rfl | decide) ?_
      refine ce_cSp dX8_runScript_36 hX8_in kRX8_108 (m_X8_in (lN X) (0) (99999) ((0 : Int) ≤ (X : Int) ∧ (X : Int) ≤ (99999 : Int)) (cr_io (pk_lT hX63) (by decide) (by decide))) rfl rfl (by decide) (Nat.le_of_ble_eq_true rfl) ?_
      refine ce_if_eqB (tgt := 46) dX8_runScript_39 (by decide) rfl (fun c_39 => ?_) (fun c_39 => ?_)
      · exact absurd (hf.symm.trans (show kx_scr (nI 1) (lN X) = 2 by rw [kx_scr1, pk_lT hX63]; exact if_neg c_39)) (by decide)
      · refine ce_iconst (v := nI (0)) dX8_runScript_42 (by decide) ?_
        refine ce_goto (tgt := 47) dX8_runScript_43 (by decide) ?_
        refine ce_cVr dX8_runScript_47 hX8_refused kRX8_115 (m_X8_refused0 d hD) rfl rfl hD.1 rfl (by decide) (Nat.le_of_ble_eq_true rfl) (fun rcg1 cg1 hcg1 => ?_)
        obtain ⟨ecg1, hcg1⟩ := hcg1
        have ecg1 : rcg1 = nI 0 := ecg1
        subst ecg1
        have Mcg1 : ce_rM cg1 d S := by rw [hcg1]; exact rM_ref hr
        have zcg1 : cg1 d 0 = nI 0 := by rw [hcg1]; exact ce_up_at _ _ _ _
        have ycg1 : ce_fr d (d + 11) g cg1 := fun x hx => by rw [hcg1]; exact ce_up_ne _ _ _ (by omega)
        refine ce_if_eqN (tgt := 55) dX8_runScript_50 (by decide) rfl (by omega) (fun c_50 => ?_) (fun c_50 => ?_)
        · refine ce_aload_n dX8_runScript_55 rfl ?_
          refine ce_cVu dX8_runScript_56 hX8_begin kRX8_248 (m_X8_begin d (sK S) (sO S) hD Mcg1.2.1) rfl rfl hD.1 rfl (by decide) (Nat.le_of_ble_eq_true rfl) (fun cg2 hcg2 => ?_)
          refine ce_iconst (v := nI (0)) dX8_runScript_59 (by decide) ?_
          refine ce_istore dX8_runScript_60 (Nat.le_of_ble_eq_true rfl) rfl ?_
          refine ce_iload dX8_runScript_62 rfl ?_
          refine ce_iload_n dX8_runScript_64 rfl ?_
          refine ce_icmp_geN (tgt := 102) dX8_runScript_65 (by decide) rfl rfl (by omega) (by omega) (fun c_65 => ?_) (fun c_65 => ?_)
          · omega
          · refine ce_aload_n dX8_runScript_68 rfl ?_
            refine ce_lload_n dX8_runScript_69 rfl ?_
            refine ce_iconst (v := nI (5)) dX8_runScript_70 (by decide) ?_
            refine ce_iload_n dX8_runScript_71 rfl ?_
            refine ce_iconst (v := nI (1)) dX8_runScript_72 (by decide) ?_
            refine ce_isub (z := nI (0)) dX8_runScript_73 (by decide) ?_
            refine ce_iload dX8_runScript_74 rfl ?_
            refine ce_isub (z := nI (0)) dX8_runScript_76 (by decide) ?_
            refine ce_imul (z := nI (0)) dX8_runScript_77 (pk_mul _ _) ?_
            refine ce_cSj dX8_runScript_78 hX8_tenTo kRX8_244 (m_X8_tenTo (0) (by omega)) rfl rfl (by decide) (Nat.le_of_ble_eq_true rfl) ?_
            refine ce_ldiv (z := lN (X)) dX8_runScript_81 (by decide) ((pk_lDiv hX63 (by decide) (by decide)).trans (congrArg lN (show X / 1 = X from Nat.div_one X))) ?_
            refine ce_ldc2 dX8_runScript_82 kRX8_251 ?_
            refine ce_lrem (z := lN (X % 100000)) dX8_runScript_85 (by decide) (pk_lRem (by omega) (by decide) (by decide)) ?_
            refine ce_l2i (v := nI (X % 100000)) dX8_runScript_86 (lN_i _) ?_
            refine ce_cVr dX8_runScript_87 hX8_does kRX8_253 (m_X8_does d (sK S) (sO S) hD hcg2.1 ok.1 (X % 100000) (by omega)) rfl rfl hD.1 rfl (by decide) (Nat.le_of_ble_eq_true rfl) (fun rcg3 cg3 hcg3 => ?_)
            obtain ⟨ecg3, hcg32, hcg33⟩ := hcg3
            have ecg3 : rcg3 = (if kt_f (sK S) (X % 100000) = 0 then 1 else 0) := ecg3
            subst ecg3
            refine ce_if_neB (tgt := 96) dX8_runScript_90 (by decide) rfl (fun c_90 => ?_) (fun c_90 => ?_)
            · have u0 := kx_run_y (K := (sK S)) (G := X % 100000) (i := 0) (r := []) c_90
              refine ce_iinc (v := nI (1)) dX8_runScript_96 rfl (ce_inc1 _) (Nat.le_of_ble_eq_true rfl) rfl ?_
              refine ce_goto (tgt := 62) dX8_runScript_99 (by decide) ?_
              refine ce_iload dX8_runScript_62 rfl ?_
              refine ce_iload_n dX8_runScript_64 rfl ?_
              refine ce_icmp_geN (tgt := 102) dX8_runScript_65 (by decide) rfl rfl (by omega) (by omega) (fun c_65 => ?_) (fun c_65 => ?_)
              · refine ce_ldc dX8_runScript_102 kRX8_65 ?_
                refine ce_iret dX8_runScript_104 rfl rfl (by decide) (by decide) ?_
                have f9 : ∀ x, x ≠ d + 4 → x ≠ d + 8 → cg3 x = cg1 x := (fun x h4 h8 => (hcg33 x h4 h8).trans ((fun x h4 _ => hcg2.2 x h4) x h4 h8))
                exact ⟨_, rfl, rfl, congrArg ce_o (u0).symm, (congrFun (f9 d (by omega) (by omega)) 0).trans zcg1, rM_tr Mcg1 f9, fun x hx => (f9 x (by omega) (by omega)).trans (ycg1 x hx)⟩
              · omega
            · have u0 := kx_run_n (K := (sK S)) (G := X % 100000) (i := 0) (r := []) c_90
              refine ce_iload dX8_runScript_93 rfl ?_
              refine ce_iret dX8_runScript_95 rfl rfl (by decide) (by decide) ?_
              have f9 : ∀ x, x ≠ d + 4 → x ≠ d + 8 → cg3 x = cg1 x := (fun x h4 h8 => (hcg33 x h4 h8).trans ((fun x h4 _ => hcg2.2 x h4) x h4 h8))
              exact ⟨_, rfl, rfl, congrArg ce_o (u0).symm, (congrFun (f9 d (by omega) (by omega)) 0).trans zcg1, rM_tr Mcg1 f9, fun x hx => (f9 x (by omega) (by omega)).trans (ycg1 x hx)⟩
        · omega
set_option maxHeartbeats 2000000 in
set_option maxRecDepth 20000 in
theorem m_X8_runScript_ok2 {σ : ce_S} {g : ce_D} (d : Nat) (S : ks_S) (hD : ce_LM σ d) (hr : ce_rM g d S) (ok : ks_ok S) (X : Nat) (hX63 : X < 2 ^ 63) (hf : kx_scr (nI (2)) (lN X) = 0) : ce_CT (ce_r 6) mX8_runScript [.ref (d), .int (nI (2)), .long (lN X)] σ g (ce_rv σ (fun z9 g1 => z9 = ce_o (kx_run (sK S) [X / 100000 % 100000, X % 100000] 0) ∧ g1 d 0 = nI 0 ∧ ce_rM g1 d S ∧ ce_fr d (d + 11) g g1)) ce_no := by
  have hB := ok.1.i7
  have hM := ok.1.me
  have hW := ok.1.wi
  have hst := ok.1.st
  have h14 : sn S ≤ 14 := hr.2.2.1.1
  have h120 : sl S ≤ 120 := hr.1.1
  refine ce_enter (by decide) rfl (Nat.le_of_ble_eq_true rfl) (L := [some (.ref (d)), some (.int (nI (2))), some (.long (lN X)), none, none, none]) rfl ?_
  refine ce_iload_n dX8_runScript_0 rfl ?_
  refine ce_i2l (v := (nI (2)).toInt64) dX8_runScript_1 rfl ?_
  refine ce_lconst (v := 1) dX8_runScript_2 (by decide) ?_
  refine ce_ldc2 dX8_runScript_3 kRX8_177 ?_
  refine ce_cSp dX8_runScript_6 hX8_in kRX8_108 (m_X8_in ((nI (2)).toInt64) (1) (3) ((1 : Int) ≤ ((2 : Nat) : Int) ∧ ((2 : Nat) : Int) ≤ (3 : Int)) (cr_io ((cr_tl (nI (2))).trans (nI_toInt (by omega))) (by decide) (by decide))) rfl rfl (by decide) (Nat.le_of_ble_eq_true rfl) ?_
  refine ce_istore dX8_runScript_9 (Nat.le_of_ble_eq_true rfl) rfl ?_
  refine ce_aload_n dX8_runScript_11 rfl ?_
  refine ce_iload dX8_runScript_12 rfl ?_
  refine ce_if_eqB (tgt := 46) dX8_runScript_14 (by decide) rfl (fun c_14 => ?_) (fun c_14 => ?_)
  · omega
  · refine ce_lload_n dX8_runScript_17 rfl ?_
    refine ce_lconst (v := 0) dX8_runScript_18 (by decide) ?_
    refine ce_iload dX8_runScript_19 rfl ?_
    refine ce_if_eqB (tgt := 30) dX8_runScript_21 (by decide) rfl (fun c_21 => ?_) (fun c_21 => ?_)
    · omega
    · refine ce_iconst (v := nI (5)) dX8_runScript_24 (by decide) ?_
      refine ce_iload_n dX8_runScript_25 rfl ?_
      refine ce_imul (z := nI (10)) dX8_runScript_26 (pk_mul _ _) ?_
      refine ce_goto (tgt := 31) dX8_runScript_27 (by decide) ?_
      refine ce_cSj dX8_runScript_31 hX8_tenTo kRX8_244 (m_X8_tenTo (10) (by omega)) rfl rfl (by decide) (Nat.le_of_ble_eq_true rfl) ?_
      refine ce_lconst (v := 1) dX8_runScript_34 (by decide) ?_
      refine ce_lsub (z := 9999999999) dX8_runScript_35 (by first | rfl | decide) ?_
      refine ce_cSp dX8_runScript_36 hX8_in kRX8_108 (m_X8_in (lN X) (0) (9999999999) ((0 : Int) ≤ (X : Int) ∧ (X : Int) ≤ (9999999999 : Int)) (cr_io (pk_lT hX63) (by decide) (by decide))) rfl rfl (by decide) (Nat.le_of_ble_eq_true rfl) ?_
      refine ce_if_eqB (tgt := 46) dX8_runScript_39 (by decide) rfl (fun c_39 => ?_) (fun c_39 => ?_)
      · exact absurd (hf.symm.trans (show kx_scr (nI 2) (lN X) = 2 by rw [kx_scr2, pk_lT hX63]; exact if_neg c_39)) (by decide)
      · refine ce_iconst (v := nI (0)) dX8_runScript_42 (by decide) ?_
        refine ce_goto (tgt := 47) dX8_runScript_43 (by decide) ?_
        refine ce_cVr dX8_runScript_47 hX8_refused kRX8_115 (m_X8_refused0 d hD) rfl rfl hD.1 rfl (by decide) (Nat.le_of_ble_eq_true rfl) (fun rcg1 cg1 hcg1 => ?_)
        obtain ⟨ecg1, hcg1⟩ := hcg1
        have ecg1 : rcg1 = nI 0 := ecg1
        subst ecg1
        have Mcg1 : ce_rM cg1 d S := by rw [hcg1]; exact rM_ref hr
        have zcg1 : cg1 d 0 = nI 0 := by rw [hcg1]; exact ce_up_at _ _ _ _
        have ycg1 : ce_fr d (d + 11) g cg1 := fun x hx => by rw [hcg1]; exact ce_up_ne _ _ _ (by omega)
        refine ce_if_eqN (tgt := 55) dX8_runScript_50 (by decide) rfl (by omega) (fun c_50 => ?_) (fun c_50 => ?_)
        · refine ce_aload_n dX8_runScript_55 rfl ?_
          refine ce_cVu dX8_runScript_56 hX8_begin kRX8_248 (m_X8_begin d (sK S) (sO S) hD Mcg1.2.1) rfl rfl hD.1 rfl (by decide) (Nat.le_of_ble_eq_true rfl) (fun cg2 hcg2 => ?_)
          refine ce_iconst (v := nI (0)) dX8_runScript_59 (by decide) ?_
          refine ce_istore dX8_runScript_60 (Nat.le_of_ble_eq_true rfl) rfl ?_
          refine ce_iload dX8_runScript_62 rfl ?_
          refine ce_iload_n dX8_runScript_64 rfl ?_
          refine ce_icmp_geN (tgt := 102) dX8_runScript_65 (by decide) rfl rfl (by omega) (by omega) (fun c_65 => ?_) (fun c_65 => ?_)
          · omega
          · refine ce_aload_n dX8_runScript_68 rfl ?_
            refine ce_lload_n dX8_runScript_69 rfl ?_
            refine ce_iconst (v := nI (5)) dX8_runScript_70 (by decide) ?_
            refine ce_iload_n dX8_runScript_71 rfl ?_
            refine ce_iconst (v := nI (1)) dX8_runScript_72 (by decide) ?_
            refine ce_isub (z := nI (1)) dX8_runScript_73 (by decide) ?_
            refine ce_iload dX8_runScript_74 rfl ?_
            refine ce_isub (z := nI (1)) dX8_runScript_76 (by decide) ?_
            refine ce_imul (z := nI (5)) dX8_runScript_77 (pk_mul _ _) ?_
            refine ce_cSj dX8_runScript_78 hX8_tenTo kRX8_244 (m_X8_tenTo (5) (by omega)) rfl rfl (by decide) (Nat.le_of_ble_eq_true rfl) ?_
            refine ce_ldiv (z := lN (X / 100000)) dX8_runScript_81 (by decide) (pk_lDiv hX63 (by decide) (by decide)) ?_
            refine ce_ldc2 dX8_runScript_82 kRX8_251 ?_
            refine ce_lrem (z := lN (X / 100000 % 100000)) dX8_runScript_85 (by decide) (pk_lRem (by omega) (by decide) (by decide)) ?_
            refine ce_l2i (v := nI (X / 100000 % 100000)) dX8_runScript_86 (lN_i _) ?_
            refine ce_cVr dX8_runScript_87 hX8_does kRX8_253 (m_X8_does d (sK S) (sO S) hD hcg2.1 ok.1 (X / 100000 % 100000) (by omega)) rfl rfl hD.1 rfl (by decide) (Nat.le_of_ble_eq_true rfl) (fun rcg3 cg3 hcg3 => ?_)
            obtain ⟨ecg3, hcg32, hcg33⟩ := hcg3
            have ecg3 : rcg3 = (if kt_f (sK S) (X / 100000 % 100000) = 0 then 1 else 0) := ecg3
            subst ecg3
            refine ce_if_neB (tgt := 96) dX8_runScript_90 (by decide) rfl (fun c_90 => ?_) (fun c_90 => ?_)
            · have u0 := kx_run_y (K := (sK S)) (G := X / 100000 % 100000) (i := 0) (r := [X % 100000]) c_90
              refine ce_iinc (v := nI (1)) dX8_runScript_96 rfl (ce_inc1 _) (Nat.le_of_ble_eq_true rfl) rfl ?_
              refine ce_goto (tgt := 62) dX8_runScript_99 (by decide) ?_
              refine ce_iload dX8_runScript_62 rfl ?_
              refine ce_iload_n dX8_runScript_64 rfl ?_
              refine ce_icmp_geN (tgt := 102) dX8_runScript_65 (by decide) rfl rfl (by omega) (by omega) (fun c_65 => ?_) (fun c_65 => ?_)
              · omega
              · refine ce_aload_n dX8_runScript_68 rfl ?_
                refine ce_lload_n dX8_runScript_69 rfl ?_
                refine ce_iconst (v := nI (5)) dX8_runScript_70 (by decide) ?_
                refine ce_iload_n dX8_runScript_71 rfl ?_
                refine ce_iconst (v := nI (1)) dX8_runScript_72 (by decide) ?_
                refine ce_isub (z := nI (1)) dX8_runScript_73 (by decide) ?_
                refine ce_iload dX8_runScript_74 rfl ?_
                refine ce_isub (z := nI (0)) dX8_runScript_76 (by decide) ?_
                refine ce_imul (z := nI (0)) dX8_runScript_77 (pk_mul _ _) ?_
                refine ce_cSj dX8_runScript_78 hX8_tenTo kRX8_244 (m_X8_tenTo (0) (by omega)) rfl rfl (by decide) (Nat.le_of_ble_eq_true rfl) ?_
                refine ce_ldiv (z := lN (X)) dX8_runScript_81 (by decide) ((pk_lDiv hX63 (by decide) (by decide)).trans (congrArg lN (show X / 1 = X from Nat.div_one X))) ?_
                refine ce_ldc2 dX8_runScript_82 kRX8_251 ?_
                refine ce_lrem (z := lN (X % 100000)) dX8_runScript_85 (by decide) (pk_lRem (by omega) (by decide) (by decide)) ?_
                refine ce_l2i (v := nI (X % 100000)) dX8_runScript_86 (lN_i _) ?_
                refine ce_cVr dX8_runScript_87 hX8_does kRX8_253 (m_X8_does d (kd_K (sK S) (X / 100000 % 100000)) (kd_O (sK S) (sO S) (X / 100000 % 100000)) hD hcg32 (cl_kd ok.1 (by omega)) (X % 100000) (by omega)) rfl rfl hD.1 rfl (by decide) (Nat.le_of_ble_eq_true rfl) (fun rcg4 cg4 hcg4 => ?_)
                obtain ⟨ecg4, hcg42, hcg43⟩ := hcg4
                have ecg4 : rcg4 = (if kt_f (kd_K (sK S) (X / 100000 % 100000)) (X % 100000) = 0 then 1 else 0) := ecg4
                subst ecg4
                refine ce_if_neB (tgt := 96) dX8_runScript_90 (by decide) rfl (fun c_90 => ?_) (fun c_90 => ?_)
                · have u1 := kx_run_y (K := (kd_K (sK S) (X / 100000 % 100000))) (G := X % 100000) (i := 1) (r := []) c_90
                  refine ce_iinc (v := nI (2)) dX8_runScript_96 rfl (ce_inc1 _) (Nat.le_of_ble_eq_true rfl) rfl ?_
                  refine ce_goto (tgt := 62) dX8_runScript_99 (by decide) ?_
                  refine ce_iload dX8_runScript_62 rfl ?_
                  refine ce_iload_n dX8_runScript_64 rfl ?_
                  refine ce_icmp_geN (tgt := 102) dX8_runScript_65 (by decide) rfl rfl (by omega) (by omega) (fun c_65 => ?_) (fun c_65 => ?_)
                  · refine ce_ldc dX8_runScript_102 kRX8_65 ?_
                    refine ce_iret dX8_runScript_104 rfl rfl (by decide) (by decide) ?_
                    have f9 : ∀ x, x ≠ d + 4 → x ≠ d + 8 → cg4 x = cg1 x := (fun x h4 h8 => (hcg43 x h4 h8).trans ((fun x h4 h8 => (hcg33 x h4 h8).trans ((fun x h4 _ => hcg2.2 x h4) x h4 h8)) x h4 h8))
                    exact ⟨_, rfl, rfl, congrArg ce_o (((u0).trans u1)).symm, (congrFun (f9 d (by omega) (by omega)) 0).trans zcg1, rM_tr Mcg1 f9, fun x hx => (f9 x (by omega) (by omega)).trans (ycg1 x hx)⟩
                  · omega
                · have u1 := kx_run_n (K := (kd_K (sK S) (X / 100000 % 100000))) (G := X % 100000) (i := 1) (r := []) c_90
                  refine ce_iload dX8_runScript_93 rfl ?_
                  refine ce_iret dX8_runScript_95 rfl rfl (by decide) (by decide) ?_
                  have f9 : ∀ x, x ≠ d + 4 → x ≠ d + 8 → cg4 x = cg1 x := (fun x h4 h8 => (hcg43 x h4 h8).trans ((fun x h4 h8 => (hcg33 x h4 h8).trans ((fun x h4 _ => hcg2.2 x h4) x h4 h8)) x h4 h8))
                  exact ⟨_, rfl, rfl, congrArg ce_o (((u0).trans u1)).symm, (congrFun (f9 d (by omega) (by omega)) 0).trans zcg1, rM_tr Mcg1 f9, fun x hx => (f9 x (by omega) (by omega)).trans (ycg1 x hx)⟩
            · have u0 := kx_run_n (K := (sK S)) (G := X / 100000 % 100000) (i := 0) (r := [X % 100000]) c_90
              refine ce_iload dX8_runScript_93 rfl ?_
              refine ce_iret dX8_runScript_95 rfl rfl (by decide) (by decide) ?_
              have f9 : ∀ x, x ≠ d + 4 → x ≠ d + 8 → cg3 x = cg1 x := (fun x h4 h8 => (hcg33 x h4 h8).trans ((fun x h4 _ => hcg2.2 x h4) x h4 h8))
              exact ⟨_, rfl, rfl, congrArg ce_o (u0).symm, (congrFun (f9 d (by omega) (by omega)) 0).trans zcg1, rM_tr Mcg1 f9, fun x hx => (f9 x (by omega) (by omega)).trans (ycg1 x hx)⟩
        · omega
set_option maxHeartbeats 2000000 in
set_option maxRecDepth 20000 in
theorem m_X8_runScript_ok3 {σ : ce_S} {g : ce_D} (d : Nat) (S : ks_S) (hD : ce_LM σ d) (hr : ce_rM g d S) (ok : ks_ok S) (X : Nat) (hX63 : X < 2 ^ 63) (hf : kx_scr (nI (3)) (lN X) = 0) : ce_CT (ce_r 6) mX8_runScript [.ref (d), .int (nI (3)), .long (lN X)] σ g (ce_rv σ (fun z9 g1 => z9 = ce_o (kx_run (sK S) [X / 100000 / 100000 % 100000, X / 100000 % 100000, X % 100000] 0) ∧ g1 d 0 = nI 0 ∧ ce_rM g1 d S ∧ ce_fr d (d + 11) g g1)) ce_no := by
  have hB := ok.1.i7
  have hM := ok.1.me
  have hW := ok.1.wi
  have hst := ok.1.st
  have h14 : sn S ≤ 14 := hr.2.2.1.1
  have h120 : sl S ≤ 120 := hr.1.1
  refine ce_enter (by decide) rfl (Nat.le_of_ble_eq_true rfl) (L := [some (.ref (d)), some (.int (nI (3))), some (.long (lN X)), none, none, none]) rfl ?_
  refine ce_iload_n dX8_runScript_0 rfl ?_
  refine ce_i2l (v := (nI (3)).toInt64) dX8_runScript_1 rfl ?_
  refine ce_lconst (v := 1) dX8_runScript_2 (by decide) ?_
  refine ce_ldc2 dX8_runScript_3 kRX8_177 ?_
  refine ce_cSp dX8_runScript_6 hX8_in kRX8_108 (m_X8_in ((nI (3)).toInt64) (1) (3) ((1 : Int) ≤ ((3 : Nat) : Int) ∧ ((3 : Nat) : Int) ≤ (3 : Int)) (cr_io ((cr_tl (nI (3))).trans (nI_toInt (by omega))) (by decide) (by decide))) rfl rfl (by decide) (Nat.le_of_ble_eq_true rfl) ?_
  refine ce_istore dX8_runScript_9 (Nat.le_of_ble_eq_true rfl) rfl ?_
  refine ce_aload_n dX8_runScript_11 rfl ?_
  refine ce_iload dX8_runScript_12 rfl ?_
  refine ce_if_eqB (tgt := 46) dX8_runScript_14 (by decide) rfl (fun c_14 => ?_) (fun c_14 => ?_)
  · omega
  · refine ce_lload_n dX8_runScript_17 rfl ?_
    refine ce_lconst (v := 0) dX8_runScript_18 (by decide) ?_
    refine ce_iload dX8_runScript_19 rfl ?_
    refine ce_if_eqB (tgt := 30) dX8_runScript_21 (by decide) rfl (fun c_21 => ?_) (fun c_21 => ?_)
    · omega
    · refine ce_iconst (v := nI (5)) dX8_runScript_24 (by decide) ?_
      refine ce_iload_n dX8_runScript_25 rfl ?_
      refine ce_imul (z := nI (15)) dX8_runScript_26 (pk_mul _ _) ?_
      refine ce_goto (tgt := 31) dX8_runScript_27 (by decide) ?_
      refine ce_cSj dX8_runScript_31 hX8_tenTo kRX8_244 (m_X8_tenTo (15) (by omega)) rfl rfl (by decide) (Nat.le_of_ble_eq_true rfl) ?_
      refine ce_lconst (v := 1) dX8_runScript_34 (by decide) ?_
      refine ce_lsub (z := 999999999999999) dX8_runScript_35 (by first | rfl | decide) ?_
      refine ce_cSp dX8_runScript_36 hX8_in kRX8_108 (m_X8_in (lN X) (0) (999999999999999) ((0 : Int) ≤ (X : Int) ∧ (X : Int) ≤ (999999999999999 : Int)) (cr_io (pk_lT hX63) (by decide) (by decide))) rfl rfl (by decide) (Nat.le_of_ble_eq_true rfl) ?_
      refine ce_if_eqB (tgt := 46) dX8_runScript_39 (by decide) rfl (fun c_39 => ?_) (fun c_39 => ?_)
      · exact absurd (hf.symm.trans (show kx_scr (nI 3) (lN X) = 2 by rw [kx_scr3, pk_lT hX63]; exact if_neg c_39)) (by decide)
      · refine ce_iconst (v := nI (0)) dX8_runScript_42 (by decide) ?_
        refine ce_goto (tgt := 47) dX8_runScript_43 (by decide) ?_
        refine ce_cVr dX8_runScript_47 hX8_refused kRX8_115 (m_X8_refused0 d hD) rfl rfl hD.1 rfl (by decide) (Nat.le_of_ble_eq_true rfl) (fun rcg1 cg1 hcg1 => ?_)
        obtain ⟨ecg1, hcg1⟩ := hcg1
        have ecg1 : rcg1 = nI 0 := ecg1
        subst ecg1
        have Mcg1 : ce_rM cg1 d S := by rw [hcg1]; exact rM_ref hr
        have zcg1 : cg1 d 0 = nI 0 := by rw [hcg1]; exact ce_up_at _ _ _ _
        have ycg1 : ce_fr d (d + 11) g cg1 := fun x hx => by rw [hcg1]; exact ce_up_ne _ _ _ (by omega)
        refine ce_if_eqN (tgt := 55) dX8_runScript_50 (by decide) rfl (by omega) (fun c_50 => ?_) (fun c_50 => ?_)
        · refine ce_aload_n dX8_runScript_55 rfl ?_
          refine ce_cVu dX8_runScript_56 hX8_begin kRX8_248 (m_X8_begin d (sK S) (sO S) hD Mcg1.2.1) rfl rfl hD.1 rfl (by decide) (Nat.le_of_ble_eq_true rfl) (fun cg2 hcg2 => ?_)
          refine ce_iconst (v := nI (0)) dX8_runScript_59 (by decide) ?_
          refine ce_istore dX8_runScript_60 (Nat.le_of_ble_eq_true rfl) rfl ?_
          refine ce_iload dX8_runScript_62 rfl ?_
          refine ce_iload_n dX8_runScript_64 rfl ?_
          refine ce_icmp_geN (tgt := 102) dX8_runScript_65 (by decide) rfl rfl (by omega) (by omega) (fun c_65 => ?_) (fun c_65 => ?_)
          · omega
          · refine ce_aload_n dX8_runScript_68 rfl ?_
            refine ce_lload_n dX8_runScript_69 rfl ?_
            refine ce_iconst (v := nI (5)) dX8_runScript_70 (by decide) ?_
            refine ce_iload_n dX8_runScript_71 rfl ?_
            refine ce_iconst (v := nI (1)) dX8_runScript_72 (by decide) ?_
            refine ce_isub (z := nI (2)) dX8_runScript_73 (by decide) ?_
            refine ce_iload dX8_runScript_74 rfl ?_
            refine ce_isub (z := nI (2)) dX8_runScript_76 (by decide) ?_
            refine ce_imul (z := nI (10)) dX8_runScript_77 (pk_mul _ _) ?_
            refine ce_cSj dX8_runScript_78 hX8_tenTo kRX8_244 (m_X8_tenTo (10) (by omega)) rfl rfl (by decide) (Nat.le_of_ble_eq_true rfl) ?_
            refine ce_ldiv (z := lN (X / 100000 / 100000)) dX8_runScript_81 (by decide) ((pk_lDiv hX63 (by decide) (by decide)).trans (congrArg lN (Nat.div_div_eq_div_mul X 100000 100000).symm)) ?_
            refine ce_ldc2 dX8_runScript_82 kRX8_251 ?_
            refine ce_lrem (z := lN (X / 100000 / 100000 % 100000)) dX8_runScript_85 (by decide) (pk_lRem (by omega) (by decide) (by decide)) ?_
            refine ce_l2i (v := nI (X / 100000 / 100000 % 100000)) dX8_runScript_86 (lN_i _) ?_
            refine ce_cVr dX8_runScript_87 hX8_does kRX8_253 (m_X8_does d (sK S) (sO S) hD hcg2.1 ok.1 (X / 100000 / 100000 % 100000) (by omega)) rfl rfl hD.1 rfl (by decide) (Nat.le_of_ble_eq_true rfl) (fun rcg3 cg3 hcg3 => ?_)
            obtain ⟨ecg3, hcg32, hcg33⟩ := hcg3
            have ecg3 : rcg3 = (if kt_f (sK S) (X / 100000 / 100000 % 100000) = 0 then 1 else 0) := ecg3
            subst ecg3
            refine ce_if_neB (tgt := 96) dX8_runScript_90 (by decide) rfl (fun c_90 => ?_) (fun c_90 => ?_)
            · have u0 := kx_run_y (K := (sK S)) (G := X / 100000 / 100000 % 100000) (i := 0) (r := [X / 100000 % 100000, X % 100000]) c_90
              refine ce_iinc (v := nI (1)) dX8_runScript_96 rfl (ce_inc1 _) (Nat.le_of_ble_eq_true rfl) rfl ?_
              refine ce_goto (tgt := 62) dX8_runScript_99 (by decide) ?_
              refine ce_iload dX8_runScript_62 rfl ?_
              refine ce_iload_n dX8_runScript_64 rfl ?_
              refine ce_icmp_geN (tgt := 102) dX8_runScript_65 (by decide) rfl rfl (by omega) (by omega) (fun c_65 => ?_) (fun c_65 => ?_)
              · omega
              · refine ce_aload_n dX8_runScript_68 rfl ?_
                refine ce_lload_n dX8_runScript_69 rfl ?_
                refine ce_iconst (v := nI (5)) dX8_runScript_70 (by decide) ?_
                refine ce_iload_n dX8_runScript_71 rfl ?_
                refine ce_iconst (v := nI (1)) dX8_runScript_72 (by decide) ?_
                refine ce_isub (z := nI (2)) dX8_runScript_73 (by decide) ?_
                refine ce_iload dX8_runScript_74 rfl ?_
                refine ce_isub (z := nI (1)) dX8_runScript_76 (by decide) ?_
                refine ce_imul (z := nI (5)) dX8_runScript_77 (pk_mul _ _) ?_
                refine ce_cSj dX8_runScript_78 hX8_tenTo kRX8_244 (m_X8_tenTo (5) (by omega)) rfl rfl (by decide) (Nat.le_of_ble_eq_true rfl) ?_
                refine ce_ldiv (z := lN (X / 100000)) dX8_runScript_81 (by decide) (pk_lDiv hX63 (by decide) (by decide)) ?_
                refine ce_ldc2 dX8_runScript_82 kRX8_251 ?_
                refine ce_lrem (z := lN (X / 100000 % 100000)) dX8_runScript_85 (by decide) (pk_lRem (by omega) (by decide) (by decide)) ?_
                refine ce_l2i (v := nI (X / 100000 % 100000)) dX8_runScript_86 (lN_i _) ?_
                refine ce_cVr dX8_runScript_87 hX8_does kRX8_253 (m_X8_does d (kd_K (sK S) (X / 100000 / 100000 % 100000)) (kd_O (sK S) (sO S) (X / 100000 / 100000 % 100000)) hD hcg32 (cl_kd ok.1 (by omega)) (X / 100000 % 100000) (by omega)) rfl rfl hD.1 rfl (by decide) (Nat.le_of_ble_eq_true rfl) (fun rcg4 cg4 hcg4 => ?_)
                obtain ⟨ecg4, hcg42, hcg43⟩ := hcg4
                have ecg4 : rcg4 = (if kt_f (kd_K (sK S) (X / 100000 / 100000 % 100000)) (X / 100000 % 100000) = 0 then 1 else 0) := ecg4
                subst ecg4
                refine ce_if_neB (tgt := 96) dX8_runScript_90 (by decide) rfl (fun c_90 => ?_) (fun c_90 => ?_)
                · have u1 := kx_run_y (K := (kd_K (sK S) (X / 100000 / 100000 % 100000))) (G := X / 100000 % 100000) (i := 1) (r := [X % 100000]) c_90
                  refine ce_iinc (v := nI (2)) dX8_runScript_96 rfl (ce_inc1 _) (Nat.le_of_ble_eq_true rfl) rfl ?_
                  refine ce_goto (tgt := 62) dX8_runScript_99 (by decide) ?_
                  refine ce_iload dX8_runScript_62 rfl ?_
                  refine ce_iload_n dX8_runScript_64 rfl ?_
                  refine ce_icmp_geN (tgt := 102) dX8_runScript_65 (by decide) rfl rfl (by omega) (by omega) (fun c_65 => ?_) (fun c_65 => ?_)
                  · omega
                  · refine ce_aload_n dX8_runScript_68 rfl ?_
                    refine ce_lload_n dX8_runScript_69 rfl ?_
                    refine ce_iconst (v := nI (5)) dX8_runScript_70 (by decide) ?_
                    refine ce_iload_n dX8_runScript_71 rfl ?_
                    refine ce_iconst (v := nI (1)) dX8_runScript_72 (by decide) ?_
                    refine ce_isub (z := nI (2)) dX8_runScript_73 (by decide) ?_
                    refine ce_iload dX8_runScript_74 rfl ?_
                    refine ce_isub (z := nI (0)) dX8_runScript_76 (by decide) ?_
                    refine ce_imul (z := nI (0)) dX8_runScript_77 (pk_mul _ _) ?_
                    refine ce_cSj dX8_runScript_78 hX8_tenTo kRX8_244 (m_X8_tenTo (0) (by omega)) rfl rfl (by decide) (Nat.le_of_ble_eq_true rfl) ?_
                    refine ce_ldiv (z := lN (X)) dX8_runScript_81 (by decide) ((pk_lDiv hX63 (by decide) (by decide)).trans (congrArg lN (show X / 1 = X from Nat.div_one X))) ?_
                    refine ce_ldc2 dX8_runScript_82 kRX8_251 ?_
                    refine ce_lrem (z := lN (X % 100000)) dX8_runScript_85 (by decide) (pk_lRem (by omega) (by decide) (by decide)) ?_
                    refine ce_l2i (v := nI (X % 100000)) dX8_runScript_86 (lN_i _) ?_
                    refine ce_cVr dX8_runScript_87 hX8_does kRX8_253 (m_X8_does d (kd_K (kd_K (sK S) (X / 100000 / 100000 % 100000)) (X / 100000 % 100000)) (kd_O (kd_K (sK S) (X / 100000 / 100000 % 100000)) (kd_O (sK S) (sO S) (X / 100000 / 100000 % 100000)) (X / 100000 % 100000)) hD hcg42 (cl_kd (cl_kd ok.1 (by omega)) (by omega)) (X % 100000) (by omega)) rfl rfl hD.1 rfl (by decide) (Nat.le_of_ble_eq_true rfl) (fun rcg5 cg5 hcg5 => ?_)
                    obtain ⟨ecg5, hcg52, hcg53⟩ := hcg5
                    have ecg5 : rcg5 = (if kt_f (kd_K (kd_K (sK S) (X / 100000 / 100000 % 100000)) (X / 100000 % 100000)) (X % 100000) = 0 then 1 else 0) := ecg5
                    subst ecg5
                    refine ce_if_neB (tgt := 96) dX8_runScript_90 (by decide) rfl (fun c_90 => ?_) (fun c_90 => ?_)
                    · have u2 := kx_run_y (K := (kd_K (kd_K (sK S) (X / 100000 / 100000 % 100000)) (X / 100000 % 100000))) (G := X % 100000) (i := 2) (r := []) c_90
                      refine ce_iinc (v := nI (3)) dX8_runScript_96 rfl (ce_inc1 _) (Nat.le_of_ble_eq_true rfl) rfl ?_
                      refine ce_goto (tgt := 62) dX8_runScript_99 (by decide) ?_
                      refine ce_iload dX8_runScript_62 rfl ?_
                      refine ce_iload_n dX8_runScript_64 rfl ?_
                      refine ce_icmp_geN (tgt := 102) dX8_runScript_65 (by decide) rfl rfl (by omega) (by omega) (fun c_65 => ?_) (fun c_65 => ?_)
                      · refine ce_ldc dX8_runScript_102 kRX8_65 ?_
                        refine ce_iret dX8_runScript_104 rfl rfl (by decide) (by decide) ?_
                        have f9 : ∀ x, x ≠ d + 4 → x ≠ d + 8 → cg5 x = cg1 x := (fun x h4 h8 => (hcg53 x h4 h8).trans ((fun x h4 h8 => (hcg43 x h4 h8).trans ((fun x h4 h8 => (hcg33 x h4 h8).trans ((fun x h4 _ => hcg2.2 x h4) x h4 h8)) x h4 h8)) x h4 h8))
                        exact ⟨_, rfl, rfl, congrArg ce_o (((((u0).trans u1)).trans u2)).symm, (congrFun (f9 d (by omega) (by omega)) 0).trans zcg1, rM_tr Mcg1 f9, fun x hx => (f9 x (by omega) (by omega)).trans (ycg1 x hx)⟩
                      · omega
                    · have u2 := kx_run_n (K := (kd_K (kd_K (sK S) (X / 100000 / 100000 % 100000)) (X / 100000 % 100000))) (G := X % 100000) (i := 2) (r := []) c_90
                      refine ce_iload dX8_runScript_93 rfl ?_
                      refine ce_iret dX8_runScript_95 rfl rfl (by decide) (by decide) ?_
                      have f9 : ∀ x, x ≠ d + 4 → x ≠ d + 8 → cg5 x = cg1 x := (fun x h4 h8 => (hcg53 x h4 h8).trans ((fun x h4 h8 => (hcg43 x h4 h8).trans ((fun x h4 h8 => (hcg33 x h4 h8).trans ((fun x h4 _ => hcg2.2 x h4) x h4 h8)) x h4 h8)) x h4 h8))
                      exact ⟨_, rfl, rfl, congrArg ce_o (((((u0).trans u1)).trans u2)).symm, (congrFun (f9 d (by omega) (by omega)) 0).trans zcg1, rM_tr Mcg1 f9, fun x hx => (f9 x (by omega) (by omega)).trans (ycg1 x hx)⟩
                · have u1 := kx_run_n (K := (kd_K (sK S) (X / 100000 / 100000 % 100000))) (G := X / 100000 % 100000) (i := 1) (r := [X % 100000]) c_90
                  refine ce_iload dX8_runScript_93 rfl ?_
                  refine ce_iret dX8_runScript_95 rfl rfl (by decide) (by decide) ?_
                  have f9 : ∀ x, x ≠ d + 4 → x ≠ d + 8 → cg4 x = cg1 x := (fun x h4 h8 => (hcg43 x h4 h8).trans ((fun x h4 h8 => (hcg33 x h4 h8).trans ((fun x h4 _ => hcg2.2 x h4) x h4 h8)) x h4 h8))
                  exact ⟨_, rfl, rfl, congrArg ce_o (((u0).trans u1)).symm, (congrFun (f9 d (by omega) (by omega)) 0).trans zcg1, rM_tr Mcg1 f9, fun x hx => (f9 x (by omega) (by omega)).trans (ycg1 x hx)⟩
            · have u0 := kx_run_n (K := (sK S)) (G := X / 100000 / 100000 % 100000) (i := 0) (r := [X / 100000 % 100000, X % 100000]) c_90
              refine ce_iload dX8_runScript_93 rfl ?_
              refine ce_iret dX8_runScript_95 rfl rfl (by decide) (by decide) ?_
              have f9 : ∀ x, x ≠ d + 4 → x ≠ d + 8 → cg3 x = cg1 x := (fun x h4 h8 => (hcg33 x h4 h8).trans ((fun x h4 _ => hcg2.2 x h4) x h4 h8))
              exact ⟨_, rfl, rfl, congrArg ce_o (u0).symm, (congrFun (f9 d (by omega) (by omega)) 0).trans zcg1, rM_tr Mcg1 f9, fun x hx => (f9 x (by omega) (by omega)).trans (ycg1 x hx)⟩
        · omega
set_option maxHeartbeats 2000000 in
set_option maxRecDepth 20000 in
theorem m_X8_runScript_no {σ : ce_S} {g : ce_D} (d : Nat) (S : ks_S) (hD : ce_LM σ d) (hr : ce_rM g d S) (ok : ks_ok S) (x : Int32) (t : Int64) (f : Nat) (hf : kx_scr x t = f) (h0 : f ≠ 0) : ce_CT (ce_r 6) mX8_runScript [.ref (d), .int (x), .long (t)] σ g (ce_rv σ (fun z9 g1 => g1 d 0 = nI (f / 2) ∧ ce_rM g1 d S ∧ ce_fr d (d + 11) g g1)) ce_no := by
  have hB := ok.1.i7
  have hM := ok.1.me
  have hW := ok.1.wi
  have hst := ok.1.st
  have h14 : sn S ≤ 14 := hr.2.2.1.1
  have h120 : sl S ≤ 120 := hr.1.1
  refine ce_enter (by decide) rfl (Nat.le_of_ble_eq_true rfl) (L := [some (.ref (d)), some (.int (x)), some (.long (t)), none, none, none]) rfl ?_
  refine ce_iload_n dX8_runScript_0 rfl ?_
  refine ce_i2l (v := (x).toInt64) dX8_runScript_1 rfl ?_
  refine ce_lconst (v := 1) dX8_runScript_2 (by decide) ?_
  refine ce_ldc2 dX8_runScript_3 kRX8_177 ?_
  refine ce_cSp dX8_runScript_6 hX8_in kRX8_108 (m_X8_in ((x).toInt64) (1) (3) ((1 : Int) ≤ (x).toInt ∧ (x).toInt ≤ (3 : Int)) (cr_io ((cr_tl (x)).trans rfl) (by decide) (by decide))) rfl rfl (by decide) (Nat.le_of_ble_eq_true rfl) ?_
  refine ce_istore dX8_runScript_9 (Nat.le_of_ble_eq_true rfl) rfl ?_
  refine ce_aload_n dX8_runScript_11 rfl ?_
  refine ce_iload dX8_runScript_12 rfl ?_
  refine ce_if_eqB (tgt := 46) dX8_runScript_14 (by decide) rfl (fun c_14 => ?_) (fun c_14 => ?_)
  · refine ce_iconst (v := nI (1)) dX8_runScript_46 (by decide) ?_
    have ef : f = 2 := hf.symm.trans (if_neg (fun q => c_14 ⟨q.1, q.2.1⟩))
    refine ce_cVr dX8_runScript_47 hX8_refused kRX8_115 (m_X8_refused1 d hD) rfl rfl hD.1 rfl (by decide) (Nat.le_of_ble_eq_true rfl) (fun rcg1 cg1 hcg1 => ?_)
    obtain ⟨ecg1, hcg1⟩ := hcg1
    have ecg1 : rcg1 = nI 1 := ecg1
    subst ecg1
    have Mcg1 : ce_rM cg1 d S := by rw [hcg1]; exact rM_ref hr
    have zcg1 : cg1 d 0 = nI 1 := by rw [hcg1]; exact ce_up_at _ _ _ _
    have ycg1 : ce_fr d (d + 11) g cg1 := fun x hx => by rw [hcg1]; exact ce_up_ne _ _ _ (by omega)
    refine ce_if_eqN (tgt := 55) dX8_runScript_50 (by decide) rfl (by omega) (fun c_50 => ?_) (fun c_50 => ?_)
    · omega
    · refine ce_iconst (v := nI (0)) dX8_runScript_53 (by decide) ?_
      refine ce_iret dX8_runScript_54 rfl rfl (by decide) (by decide) ?_
      exact ⟨_, rfl, rfl, by rw [ef]; exact zcg1, Mcg1, ycg1⟩
  · obtain ⟨n, hn, hn2, rfl⟩ := ce_ran_ex (lo := 1) (hi := 3) (x := x) ⟨by omega, by omega⟩
    obtain rfl | rfl | rfl : n = 1 ∨ n = 2 ∨ n = 3 := by omega
    · refine ce_lload_n dX8_runScript_17 rfl ?_
      refine ce_lconst (v := 0) dX8_runScript_18 (by decide) ?_
      refine ce_iload dX8_runScript_19 rfl ?_
      refine ce_if_eqB (tgt := 30) dX8_runScript_21 (by decide) rfl (fun c_21 => ?_) (fun c_21 => ?_)
      · exact absurd c_14 c_21
      · refine ce_iconst (v := nI (5)) dX8_runScript_24 (by decide) ?_
        refine ce_iload_n dX8_runScript_25 rfl ?_
        refine ce_imul (z := nI (5)) dX8_runScript_26 (pk_mul _ _) ?_
        refine ce_goto (tgt := 31) dX8_runScript_27 (by decide) ?_
        refine ce_cSj dX8_runScript_31 hX8_tenTo kRX8_244 (m_X8_tenTo (5) (by omega)) rfl rfl (by decide) (Nat.le_of_ble_eq_true rfl) ?_
        refine ce_lconst (v := 1) dX8_runScript_34 (by decide) ?_
        refine ce_lsub (z := 99999) dX8_runScript_35 (by first | rfl | decide) ?_
        refine ce_cSp dX8_runScript_36 hX8_in kRX8_108 (m_X8_in (t) (0) (99999) ((0 : Int) ≤ (t).toInt ∧ (t).toInt ≤ (99999 : Int)) (cr_io rfl (by decide) (by decide))) rfl rfl (by decide) (Nat.le_of_ble_eq_true rfl) ?_
        refine ce_if_eqB (tgt := 46) dX8_runScript_39 (by decide) rfl (fun c_39 => ?_) (fun c_39 => ?_)
        · refine ce_iconst (v := nI (1)) dX8_runScript_46 (by decide) ?_
          have ef : f = 2 := hf.symm.trans (show kx_scr (nI 1) t = 2 by rw [kx_scr1]; exact if_neg c_39)
          refine ce_cVr dX8_runScript_47 hX8_refused kRX8_115 (m_X8_refused1 d hD) rfl rfl hD.1 rfl (by decide) (Nat.le_of_ble_eq_true rfl) (fun rcg1 cg1 hcg1 => ?_)
          obtain ⟨ecg1, hcg1⟩ := hcg1
          have ecg1 : rcg1 = nI 1 := ecg1
          subst ecg1
          have Mcg1 : ce_rM cg1 d S := by rw [hcg1]; exact rM_ref hr
          have zcg1 : cg1 d 0 = nI 1 := by rw [hcg1]; exact ce_up_at _ _ _ _
          have ycg1 : ce_fr d (d + 11) g cg1 := fun x hx => by rw [hcg1]; exact ce_up_ne _ _ _ (by omega)
          refine ce_if_eqN (tgt := 55) dX8_runScript_50 (by decide) rfl (by omega) (fun c_50 => ?_) (fun c_50 => ?_)
          · omega
          · refine ce_iconst (v := nI (0)) dX8_runScript_53 (by decide) ?_
            refine ce_iret dX8_runScript_54 rfl rfl (by decide) (by decide) ?_
            exact ⟨_, rfl, rfl, by rw [ef]; exact zcg1, Mcg1, ycg1⟩
        · refine ce_iconst (v := nI (0)) dX8_runScript_42 (by decide) ?_
          refine ce_goto (tgt := 47) dX8_runScript_43 (by decide) ?_
          exact absurd (hf.symm.trans (show kx_scr (nI 1) t = 0 by rw [kx_scr1]; exact if_pos c_39)) h0
    · refine ce_lload_n dX8_runScript_17 rfl ?_
      refine ce_lconst (v := 0) dX8_runScript_18 (by decide) ?_
      refine ce_iload dX8_runScript_19 rfl ?_
      refine ce_if_eqB (tgt := 30) dX8_runScript_21 (by decide) rfl (fun c_21 => ?_) (fun c_21 => ?_)
      · exact absurd c_14 c_21
      · refine ce_iconst (v := nI (5)) dX8_runScript_24 (by decide) ?_
        refine ce_iload_n dX8_runScript_25 rfl ?_
        refine ce_imul (z := nI (10)) dX8_runScript_26 (pk_mul _ _) ?_
        refine ce_goto (tgt := 31) dX8_runScript_27 (by decide) ?_
        refine ce_cSj dX8_runScript_31 hX8_tenTo kRX8_244 (m_X8_tenTo (10) (by omega)) rfl rfl (by decide) (Nat.le_of_ble_eq_true rfl) ?_
        refine ce_lconst (v := 1) dX8_runScript_34 (by decide) ?_
        refine ce_lsub (z := 9999999999) dX8_runScript_35 (by first | rfl | decide) ?_
        refine ce_cSp dX8_runScript_36 hX8_in kRX8_108 (m_X8_in (t) (0) (9999999999) ((0 : Int) ≤ (t).toInt ∧ (t).toInt ≤ (9999999999 : Int)) (cr_io rfl (by decide) (by decide))) rfl rfl (by decide) (Nat.le_of_ble_eq_true rfl) ?_
        refine ce_if_eqB (tgt := 46) dX8_runScript_39 (by decide) rfl (fun c_39 => ?_) (fun c_39 => ?_)
        · refine ce_iconst (v := nI (1)) dX8_runScript_46 (by decide) ?_
          have ef : f = 2 := hf.symm.trans (show kx_scr (nI 2) t = 2 by rw [kx_scr2]; exact if_neg c_39)
          refine ce_cVr dX8_runScript_47 hX8_refused kRX8_115 (m_X8_refused1 d hD) rfl rfl hD.1 rfl (by decide) (Nat.le_of_ble_eq_true rfl) (fun rcg1 cg1 hcg1 => ?_)
          obtain ⟨ecg1, hcg1⟩ := hcg1
          have ecg1 : rcg1 = nI 1 := ecg1
          subst ecg1
          have Mcg1 : ce_rM cg1 d S := by rw [hcg1]; exact rM_ref hr
          have zcg1 : cg1 d 0 = nI 1 := by rw [hcg1]; exact ce_up_at _ _ _ _
          have ycg1 : ce_fr d (d + 11) g cg1 := fun x hx => by rw [hcg1]; exact ce_up_ne _ _ _ (by omega)
          refine ce_if_eqN (tgt := 55) dX8_runScript_50 (by decide) rfl (by omega) (fun c_50 => ?_) (fun c_50 => ?_)
          · omega
          · refine ce_iconst (v := nI (0)) dX8_runScript_53 (by decide) ?_
            refine ce_iret dX8_runScript_54 rfl rfl (by decide) (by decide) ?_
            exact ⟨_, rfl, rfl, by rw [ef]; exact zcg1, Mcg1, ycg1⟩
        · refine ce_iconst (v := nI (0)) dX8_runScript_42 (by decide) ?_
          refine ce_goto (tgt := 47) dX8_runScript_43 (by decide) ?_
          exact absurd (hf.symm.trans (show kx_scr (nI 2) t = 0 by rw [kx_scr2]; exact if_pos c_39)) h0
    · refine ce_lload_n dX8_runScript_17 rfl ?_
      refine ce_lconst (v := 0) dX8_runScript_18 (by decide) ?_
      refine ce_iload dX8_runScript_19 rfl ?_
      refine ce_if_eqB (tgt := 30) dX8_runScript_21 (by decide) rfl (fun c_21 => ?_) (fun c_21 => ?_)
      · exact absurd c_14 c_21
      · refine ce_iconst (v := nI (5)) dX8_runScript_24 (by decide) ?_
        refine ce_iload_n dX8_runScript_25 rfl ?_
        refine ce_imul (z := nI (15)) dX8_runScript_26 (pk_mul _ _) ?_
        refine ce_goto (tgt := 31) dX8_runScript_27 (by decide) ?_
        refine ce_cSj dX8_runScript_31 hX8_tenTo kRX8_244 (m_X8_tenTo (15) (by omega)) rfl rfl (by decide) (Nat.le_of_ble_eq_true rfl) ?_
        refine ce_lconst (v := 1) dX8_runScript_34 (by decide) ?_
        refine ce_lsub (z := 999999999999999) dX8_runScript_35 (by first | rfl | decide) ?_
        refine ce_cSp dX8_runScript_36 hX8_in kRX8_108 (m_X8_in (t) (0) (999999999999999) ((0 : Int) ≤ (t).toInt ∧ (t).toInt ≤ (999999999999999 : Int)) (cr_io rfl (by decide) (by decide))) rfl rfl (by decide) (Nat.le_of_ble_eq_true rfl) ?_
        refine ce_if_eqB (tgt := 46) dX8_runScript_39 (by decide) rfl (fun c_39 => ?_) (fun c_39 => ?_)
        · refine ce_iconst (v := nI (1)) dX8_runScript_46 (by decide) ?_
          have ef : f = 2 := hf.symm.trans (show kx_scr (nI 3) t = 2 by rw [kx_scr3]; exact if_neg c_39)
          refine ce_cVr dX8_runScript_47 hX8_refused kRX8_115 (m_X8_refused1 d hD) rfl rfl hD.1 rfl (by decide) (Nat.le_of_ble_eq_true rfl) (fun rcg1 cg1 hcg1 => ?_)
          obtain ⟨ecg1, hcg1⟩ := hcg1
          have ecg1 : rcg1 = nI 1 := ecg1
          subst ecg1
          have Mcg1 : ce_rM cg1 d S := by rw [hcg1]; exact rM_ref hr
          have zcg1 : cg1 d 0 = nI 1 := by rw [hcg1]; exact ce_up_at _ _ _ _
          have ycg1 : ce_fr d (d + 11) g cg1 := fun x hx => by rw [hcg1]; exact ce_up_ne _ _ _ (by omega)
          refine ce_if_eqN (tgt := 55) dX8_runScript_50 (by decide) rfl (by omega) (fun c_50 => ?_) (fun c_50 => ?_)
          · omega
          · refine ce_iconst (v := nI (0)) dX8_runScript_53 (by decide) ?_
            refine ce_iret dX8_runScript_54 rfl rfl (by decide) (by decide) ?_
            exact ⟨_, rfl, rfl, by rw [ef]; exact zcg1, Mcg1, ycg1⟩
        · refine ce_iconst (v := nI (0)) dX8_runScript_42 (by decide) ?_
          refine ce_goto (tgt := 47) dX8_runScript_43 (by decide) ?_
          exact absurd (hf.symm.trans (show kx_scr (nI 3) t = 0 by rw [kx_scr3]; exact if_pos c_39)) h0
set_option maxHeartbeats 2000000 in
set_option maxRecDepth 20000 in
theorem m_X8_simulate_no {σ : ce_S} {g : ce_D} (d : Nat) (S : ks_S) (hD : ce_LM σ d) (hr : ce_rM g d S) (ok : ks_ok S) (x : Int64) (z : Int32) (f : Nat) (hf : kx_ran z 1 99 = f) (h0 : f ≠ 0) : ce_CT (ce_r 6) mX8_simulate [.ref (d), .long (x), .int (z)] σ g (ce_rv σ (fun z9 g1 => g1 d 0 = nI (f / 2) ∧ ce_rM g1 d S ∧ ce_fr d (d + 11) g g1)) ce_no := by
  have hB := ok.1.i7
  have hM := ok.1.me
  have hW := ok.1.wi
  have hst := ok.1.st
  have h14 : sn S ≤ 14 := hr.2.2.1.1
  have h120 : sl S ≤ 120 := hr.1.1
  refine ce_enter (by decide) rfl (Nat.le_of_ble_eq_true rfl) (L := [some (.ref (d)), some (.long (x)), none, some (.int (z)), none, none, none]) rfl ?_
  refine ce_aload_n dX8_simulate_0 rfl ?_
  refine ce_iload_n dX8_simulate_1 rfl ?_
  refine ce_i2l (v := (z).toInt64) dX8_simulate_2 rfl ?_
  refine ce_lconst (v := 1) dX8_simulate_3 (by decide) ?_
  refine ce_ldc2 dX8_simulate_4 kRX8_197 ?_
  refine ce_cSp dX8_simulate_7 hX8_in kRX8_108 (m_X8_in ((z).toInt64) (1) (99) ((1 : Int) ≤ (z).toInt ∧ (z).toInt ≤ (99 : Int)) (cr_io ((cr_tl (z)).trans rfl) (by decide) (by decide))) rfl rfl (by decide) (Nat.le_of_ble_eq_true rfl) ?_
  refine ce_if_eqB (tgt := 17) dX8_simulate_10 (by decide) rfl (fun c_10 => ?_) (fun c_10 => ?_)
  · refine ce_iconst (v := nI (1)) dX8_simulate_17 (by decide) ?_
    have ef : f = 2 := hf.symm.trans (show kx_ran z 1 99 = 2 by unfold kx_ran; (repeat' split) <;> first | rfl | (exfalso; omega))
    refine ce_cVr dX8_simulate_18 hX8_refused kRX8_115 (m_X8_refused1 d hD) rfl rfl hD.1 rfl (by decide) (Nat.le_of_ble_eq_true rfl) (fun rcg1 cg1 hcg1 => ?_)
    obtain ⟨ecg1, hcg1⟩ := hcg1
    have ecg1 : rcg1 = nI 1 := ecg1
    subst ecg1
    have Mcg1 : ce_rM cg1 d S := by rw [hcg1]; exact rM_ref hr
    have zcg1 : cg1 d 0 = nI 1 := by rw [hcg1]; exact ce_up_at _ _ _ _
    have ycg1 : ce_fr d (d + 11) g cg1 := fun x hx => by rw [hcg1]; exact ce_up_ne _ _ _ (by omega)
    refine ce_if_eqN (tgt := 26) dX8_simulate_21 (by decide) rfl (by omega) (fun c_21 => ?_) (fun c_21 => ?_)
    · omega
    · refine ce_iconst (v := nI (0)) dX8_simulate_24 (by decide) ?_
      refine ce_iret dX8_simulate_25 rfl rfl (by decide) (by decide) ?_
      exact ⟨_, rfl, rfl, by rw [ef]; exact zcg1, Mcg1, ycg1⟩
  · refine ce_iconst (v := nI (0)) dX8_simulate_13 (by decide) ?_
    refine ce_goto (tgt := 18) dX8_simulate_14 (by decide) ?_
    have ef : f = 0 := hf.symm.trans (show kx_ran z 1 99 = 0 by unfold kx_ran; (repeat' split) <;> first | rfl | (exfalso; omega))
    exact absurd ef h0
set_option maxHeartbeats 2000000 in
set_option maxRecDepth 20000 in
theorem w_X8_simulate {σ : ce_S} (g0 : ce_D) (d : Nat) (S : ks_S) (hD : ce_LM σ d) (hr : ce_rM g0 d S) (z0 : g0 d 0 = nI 0) (m : Nat) (hm9 : m < 1000) (T : ce_V) : ∀ (n9 : Nat) (g : ce_D) (i : Nat) (x : Int64) (K : ce_V) (O : Nat → Int32), m - i < n9 → i ≤ m → cr_row (g (d + 4)) (kq K) O → kv_cl K → kx_sim (m - i) x K = T → (∀ x, x ≠ d + 4 → x ≠ d + 8 → g x = g0 x) → ce_WP (ce_r 6) mX8_simulate 0 0 36 [some (.ref (d)), none, none, some (.int (nI (m))), some (.long (x)), none, some (.int (nI (i)))] [] σ g (ce_rv σ (fun z9 g1 => z9 = nI (1000 * ce_sum (T 9) 36 + kv_emp T (T 0 2)) ∧ g1 d 0 = nI 0 ∧ ce_rM g1 d S ∧ ce_fr d (d + 11) g0 g1)) ce_no := by
  intro n9
  induction n9 with
  | zero =>
    intros
    omega
  | succ n9 ih =>
    intro g i x K O hm hi hr4 hk hT hf
    have hM := hk.me
    have hW := hk.wi
    refine ce_iload dX8_simulate_36 rfl ?_
    refine ce_iload_n dX8_simulate_38 rfl ?_
    refine ce_icmp_geN (tgt := 88) dX8_simulate_39 (by decide) rfl rfl (by omega) (by omega) (fun c_39 => ?_) (fun c_39 => ?_)
    · refine ce_sipush (v := nI (1000)) dX8_simulate_88 (by decide) ?_
      refine ce_aload_n dX8_simulate_91 rfl ?_
      refine ce_getR dX8_simulate_92 fRX8_19 hD.1 hD.2.1.2.2.2.1 ?_
      refine ce_cSp dX8_simulate_95 hX8_cellar kRX8_158 (n_cellar ⟨(hD.2.2.2.2.2.1).1, (hD.2.2.2.2.2.1).2⟩ hk hr4) rfl rfl (by decide) (Nat.le_of_ble_eq_true rfl) ?_
      refine ce_imul (z := nI ((1000) * (ce_sum (K 9) 36))) dX8_simulate_98 (pk_mul _ _) ?_
      refine ce_aload_n dX8_simulate_99 rfl ?_
      refine ce_getR dX8_simulate_100 fRX8_19 hD.1 hD.2.1.2.2.2.1 ?_
      refine ce_cSp dX8_simulate_103 hX8_emptyBins kRX8_168 (n_emptyBins ⟨(hD.2.2.2.2.2.1).1, (hD.2.2.2.2.2.1).2⟩ hk hr4) rfl rfl (by decide) (Nat.le_of_ble_eq_true rfl) ?_
      refine ce_iadd (z := nI ((1000) * (ce_sum (K 9) 36) + (kv_emp K (K 0 2)))) dX8_simulate_106 (nI_add _ _) ?_
      refine ce_iret dX8_simulate_107 rfl rfl (by decide) (by decide) ?_
      have hTK : K = T := by rw [← hT, show m - i = 0 by omega]; rfl
      exact ⟨_, rfl, rfl, congrArg nI (by rw [hTK]), (congrFun (hf d (by omega) (by omega)) 0).trans z0, rM_tr hr hf, fun x hx => hf x (by omega) (by omega)⟩
    · refine ce_lload dX8_simulate_42 rfl ?_
      refine ce_ldc2 dX8_simulate_44 kRX8_256 ?_
      refine ce_lmul (z := x * 6364136223846793005) dX8_simulate_47 rfl ?_
      refine ce_ldc2 dX8_simulate_48 kRX8_258 ?_
      refine ce_ladd (z := ke_x x) dX8_simulate_51 rfl ?_
      refine ce_lstore dX8_simulate_52 (Nat.le_of_ble_eq_true rfl) rfl ?_
      refine ce_aload_n dX8_simulate_54 rfl ?_
      refine ce_getR dX8_simulate_55 fRX8_19 hD.1 hD.2.1.2.2.2.1 ?_
      refine ce_iconst (v := nI (0)) dX8_simulate_58 (by decide) ?_
      refine ce_ialdv dX8_simulate_59 (hD.2.2.2.2.2.1).1 rfl (hD.2.2.2.2.2.1).2 (by omega) (by decide) (((hr4).c0).trans (congrArg nI (by rw [kq_ne (by decide)]))) ?_
      refine ce_if_leN (tgt := 82) dX8_simulate_60 (by decide) rfl (by omega) (fun c_60 => ?_) (fun c_60 => ?_)
      · refine ce_iinc (v := nI (i + 1)) dX8_simulate_82 rfl (ce_inc1 _) (Nat.le_of_ble_eq_true rfl) rfl ?_
        refine ce_goto (tgt := 36) dX8_simulate_85 (by decide) ?_
        have eT : kx_sim (m - (i + 1)) (ke_x x) (kx_eK K (ke_R (ke_x x))) = T := by rw [← hT, show m - i = m - (i + 1) + 1 by omega]; rfl
        refine ce_drop (L' := [some (.ref (d)), none, none, some (.int (nI (m))), some (.long (ke_x x)), none, some (.int (nI (i + 1)))]) (ce_le_s rfl (ce_le_n (ce_le_n (ce_le_s rfl (ce_le_s rfl (ce_le_n (ce_le_s rfl ce_le_e))))))) ?_
        rw [show kx_eK K (ke_R (ke_x x)) = K from if_neg (show ¬ ke_f K (ke_R (ke_x x)) = 0 by unfold ke_f; rw [if_pos (by omega)]; decide)] at eT
        exact ih g (i + 1) (ke_x x) K O (by omega) (by omega) hr4 hk eT hf
      · refine ce_aload_n dX8_simulate_63 rfl ?_
        refine ce_getR dX8_simulate_64 fRX8_19 hD.1 hD.2.1.2.2.2.1 ?_
        refine ce_iconst (v := nI (1)) dX8_simulate_67 (by decide) ?_
        refine ce_ialdv dX8_simulate_68 (hD.2.2.2.2.2.1).1 rfl (hD.2.2.2.2.2.1).2 (by omega) (by decide) (((hr4).c1).trans (congrArg nI (by rw [kq_ne (by decide)]))) ?_
        refine ce_if_leN (tgt := 82) dX8_simulate_69 (by decide) rfl (by omega) (fun c_69 => ?_) (fun c_69 => ?_)
        · refine ce_iinc (v := nI (i + 1)) dX8_simulate_82 rfl (ce_inc1 _) (Nat.le_of_ble_eq_true rfl) rfl ?_
          refine ce_goto (tgt := 36) dX8_simulate_85 (by decide) ?_
          have eT : kx_sim (m - (i + 1)) (ke_x x) (kx_eK K (ke_R (ke_x x))) = T := by rw [← hT, show m - i = m - (i + 1) + 1 by omega]; rfl
          refine ce_drop (L' := [some (.ref (d)), none, none, some (.int (nI (m))), some (.long (ke_x x)), none, some (.int (nI (i + 1)))]) (ce_le_s rfl (ce_le_n (ce_le_n (ce_le_s rfl (ce_le_s rfl (ce_le_n (ce_le_s rfl ce_le_e))))))) ?_
          rw [show kx_eK K (ke_R (ke_x x)) = K from if_neg (show ¬ ke_f K (ke_R (ke_x x)) = 0 by unfold ke_f; rw [if_pos (by omega)]; decide)] at eT
          exact ih g (i + 1) (ke_x x) K O (by omega) (by omega) hr4 hk eT hf
        · refine ce_aload_n dX8_simulate_72 rfl ?_
          refine ce_lload dX8_simulate_73 rfl ?_
          refine ce_bipush (v := nI (33)) dX8_simulate_75 (by decide) ?_
          refine ce_lushr (v := ((ke_x x).toUInt64 >>> ((nI 33).toInt64.toUInt64 &&& Int64.toUInt64 63)).toInt64) dX8_simulate_77 rfl ?_
          refine ce_l2i (v := nI (ke_R (ke_x x))) dX8_simulate_78 (ke_R_eq _) ?_
          refine ce_cVu dX8_simulate_79 hX8_evening kRX8_260 (m_X8_evening d K O hD hr4 hk (ke_R (ke_x x)) (ke_R_lt _) (by omega) (by omega)) rfl rfl hD.1 rfl (by decide) (Nat.le_of_ble_eq_true rfl) (fun cg1 hcg1 => ?_)
          refine ce_iinc (v := nI (i + 1)) dX8_simulate_82 rfl (ce_inc1 _) (Nat.le_of_ble_eq_true rfl) rfl ?_
          refine ce_goto (tgt := 36) dX8_simulate_85 (by decide) ?_
          have eT : kx_sim (m - (i + 1)) (ke_x x) (kx_eK K (ke_R (ke_x x))) = T := by rw [← hT, show m - i = m - (i + 1) + 1 by omega]; rfl
          refine ce_drop (L' := [some (.ref (d)), none, none, some (.int (nI (m))), some (.long (ke_x x)), none, some (.int (nI (i + 1)))]) (ce_le_s rfl (ce_le_n (ce_le_n (ce_le_s rfl (ce_le_s rfl (ce_le_n (ce_le_s rfl ce_le_e))))))) ?_
          exact ih cg1 (i + 1) (ke_x x) _ _ (by omega) (by omega) hcg1.1 (cl_ev hk (ke_R_lt _)) eT (fun x h4 h8 => (hcg1.2 x h4 h8).trans (hf x h4 h8))
set_option maxHeartbeats 2000000 in
set_option maxRecDepth 20000 in
theorem m_X8_simulate_ok {σ : ce_S} {g : ce_D} (d : Nat) (S : ks_S) (hD : ce_LM σ d) (hr : ce_rM g d S) (ok : ks_ok S) (x : Int64) (m : Nat) (hm1 : 1 ≤ m) (hm9 : m ≤ 99) : ce_CT (ce_r 6) mX8_simulate [.ref (d), .long (x), .int (nI (m))] σ g (ce_rv σ (fun z9 g1 => z9 = nI (1000 * ce_sum ((kx_sim m x (sK S)) 9) 36 + kv_emp (kx_sim m x (sK S)) ((kx_sim m x (sK S)) 0 2)) ∧ g1 d 0 = nI 0 ∧ ce_rM g1 d S ∧ ce_fr d (d + 11) g g1)) ce_no := by
  have hB := ok.1.i7
  have hM := ok.1.me
  have hW := ok.1.wi
  have hst := ok.1.st
  have h14 : sn S ≤ 14 := hr.2.2.1.1
  have h120 : sl S ≤ 120 := hr.1.1
  refine ce_enter (by decide) rfl (Nat.le_of_ble_eq_true rfl) (L := [some (.ref (d)), some (.long (x)), none, some (.int (nI (m))), none, none, none]) rfl ?_
  refine ce_aload_n dX8_simulate_0 rfl ?_
  refine ce_iload_n dX8_simulate_1 rfl ?_
  refine ce_i2l (v := (nI (m)).toInt64) dX8_simulate_2 rfl ?_
  refine ce_lconst (v := 1) dX8_simulate_3 (by decide) ?_
  refine ce_ldc2 dX8_simulate_4 kRX8_197 ?_
  refine ce_cSp dX8_simulate_7 hX8_in kRX8_108 (m_X8_in ((nI (m)).toInt64) (1) (99) ((1 : Int) ≤ ((m : Nat) : Int) ∧ ((m : Nat) : Int) ≤ (99 : Int)) (cr_io ((cr_tl (nI (m))).trans (nI_toInt (by omega))) (by decide) (by decide))) rfl rfl (by decide) (Nat.le_of_ble_eq_true rfl) ?_
  refine ce_if_eqB (tgt := 17) dX8_simulate_10 (by decide) rfl (fun c_10 => ?_) (fun c_10 => ?_)
  · omega
  · refine ce_iconst (v := nI (0)) dX8_simulate_13 (by decide) ?_
    refine ce_goto (tgt := 18) dX8_simulate_14 (by decide) ?_
    refine ce_cVr dX8_simulate_18 hX8_refused kRX8_115 (m_X8_refused0 d hD) rfl rfl hD.1 rfl (by decide) (Nat.le_of_ble_eq_true rfl) (fun rcg1 cg1 hcg1 => ?_)
    obtain ⟨ecg1, hcg1⟩ := hcg1
    have ecg1 : rcg1 = nI 0 := ecg1
    subst ecg1
    have Mcg1 : ce_rM cg1 d S := by rw [hcg1]; exact rM_ref hr
    have zcg1 : cg1 d 0 = nI 0 := by rw [hcg1]; exact ce_up_at _ _ _ _
    have ycg1 : ce_fr d (d + 11) g cg1 := fun x hx => by rw [hcg1]; exact ce_up_ne _ _ _ (by omega)
    refine ce_if_eqN (tgt := 26) dX8_simulate_21 (by decide) rfl (by omega) (fun c_21 => ?_) (fun c_21 => ?_)
    · refine ce_aload_n dX8_simulate_26 rfl ?_
      refine ce_cVu dX8_simulate_27 hX8_begin kRX8_248 (m_X8_begin d (sK S) (sO S) hD Mcg1.2.1) rfl rfl hD.1 rfl (by decide) (Nat.le_of_ble_eq_true rfl) (fun cg2 hcg2 => ?_)
      refine ce_lload_n dX8_simulate_30 rfl ?_
      refine ce_lstore dX8_simulate_31 (Nat.le_of_ble_eq_true rfl) rfl ?_
      refine ce_iconst (v := nI (0)) dX8_simulate_33 (by decide) ?_
      refine ce_istore dX8_simulate_34 (Nat.le_of_ble_eq_true rfl) rfl ?_
      refine ce_drop (L' := [some (.ref (d)), none, none, some (.int (nI (m))), some (.long (x)), none, some (.int (nI (0)))]) (ce_le_s rfl (ce_le_n (ce_le_n (ce_le_s rfl (ce_le_s rfl (ce_le_n (ce_le_s rfl ce_le_e))))))) ?_
      refine ce_mono (w_X8_simulate cg1 d S hD Mcg1 zcg1 m (by omega) (kx_sim m x (sK S)) (m + 1) cg2 0 x (sK S) (sO S) (by omega) (by omega) hcg2.1 ok.1 rfl (fun x h4 _ => hcg2.2 x h4)) ?_
      rintro v σ1 g1 ⟨z, rfl, rfl, hz, h1, h2, h3⟩
      exact ⟨z, rfl, rfl, hz, h1, h2, fun x hx => (h3 x hx).trans (ycg1 x hx)⟩
    · omega
