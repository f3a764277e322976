theorem kq_emp {K : ce_V} : ∀ n, kv_emp (kq K) n = kv_emp K n
  | 0 => rfl
  | n + 1 => by rw [kv_emp, kv_emp, kq_emp n, kq_ne (a := 12) (by decide)]
set_option maxHeartbeats 2000000 in
set_option maxRecDepth 20000 in
theorem m_X8_does0 {σ : ce_S} {g : ce_D} (d : Nat) (K : ce_V) (O : Nat → Int32) (hD : ce_LM σ d) (hr : cr_row (g (d + 4)) (kq K) O) (hk : kv_cl K) (G : Nat) (hG : G < 100000) (hq : G / 10000 = 0) : ce_CT (ce_r 5) mX8_does [.ref (d), .int (nI (G))] σ g (ce_rv σ (fun z9 g1 => z9 = (if kt_f K G = 0 then 1 else 0) ∧ cr_row (g1 (d + 4)) (kq (ks_ite (kt_f K G) (kt_K K G) K)) (ks_ite (kt_f K G) (kt_O K O G) O) ∧ ∀ x, x ≠ d + 4 → x ≠ d + 8 → g1 x = g x)) ce_no := by
  have hB := hk.i7
  have hM := hk.me
  have hW := hk.wi
  have h8 : kq K 0 2 ≤ 8 := by rw [kq_ne (by decide)]; exact hB
  have eEmp : kv_emp (kq K) (kq K 0 2) = kv_emp K (K 0 2) := by rw [kq_emp, kq_ne (a := 0) (by decide)]
  have hst := hk.st
  obtain ⟨a, ha⟩ : ∃ a, G / 1000 % 10 = a := ⟨_, rfl⟩
  obtain ⟨b, hb⟩ : ∃ b, G / 100 % 10 = b := ⟨_, rfl⟩
  obtain ⟨e, he⟩ : ∃ e, G % 100 = e := ⟨_, rfl⟩
  have ha2 : a < 10 := by omega
  have hb2 : b < 10 := by omega
  have he2 : e < 100 := by omega
  have hsa := hst a
  have hsb := hst b
  refine ce_enter (by decide) rfl (Nat.le_of_ble_eq_true rfl) (L := [some (.ref (d)), some (.int (nI (G))), none, none, none, none, none, none, none]) rfl ?_
  refine ce_iload_n dX8_does_0 rfl ?_
  refine ce_sipush (v := nI (10000)) dX8_does_1 (by decide) ?_
  refine ce_idiv (z := nI (0)) dX8_does_4 (nI_ne0 (by omega) (by omega)) ((pk_div (by omega) (by omega) (by omega)).trans (congrArg nI hq)) ?_
  refine ce_istore_n dX8_does_5 (Nat.le_of_ble_eq_true rfl) rfl ?_
  refine ce_iload_n dX8_does_6 rfl ?_
  refine ce_sipush (v := nI (1000)) dX8_does_7 (by decide) ?_
  refine ce_idiv (z := nI ((G) / (1000))) dX8_does_10 (nI_ne0 (by omega) (by omega)) (pk_div (by omega) (by omega) (by omega)) ?_
  refine ce_bipush (v := nI (10)) dX8_does_11 (by decide) ?_
  refine ce_irem (z := nI (a)) dX8_does_13 (nI_ne0 (by omega) (by omega)) ((pk_rem (by omega) (by omega) (by omega)).trans (congrArg nI (ha))) ?_
  refine ce_istore_n dX8_does_14 (Nat.le_of_ble_eq_true rfl) rfl ?_
  refine ce_iload_n dX8_does_15 rfl ?_
  refine ce_bipush (v := nI (100)) dX8_does_16 (by decide) ?_
  refine ce_idiv (z := nI ((G) / (100))) dX8_does_18 (nI_ne0 (by omega) (by omega)) (pk_div (by omega) (by omega) (by omega)) ?_
  refine ce_bipush (v := nI (10)) dX8_does_19 (by decide) ?_
  refine ce_irem (z := nI (b)) dX8_does_21 (nI_ne0 (by omega) (by omega)) ((pk_rem (by omega) (by omega) (by omega)).trans (congrArg nI (hb))) ?_
  refine ce_istore dX8_does_22 (Nat.le_of_ble_eq_true rfl) rfl ?_
  refine ce_iload_n dX8_does_24 rfl ?_
  refine ce_bipush (v := nI (10)) dX8_does_25 (by decide) ?_
  refine ce_idiv (z := nI ((G) / (10))) dX8_does_27 (nI_ne0 (by omega) (by omega)) (pk_div (by omega) (by omega) (by omega)) ?_
  refine ce_bipush (v := nI (10)) dX8_does_28 (by decide) ?_
  refine ce_irem (z := nI (e / 10)) dX8_does_30 (nI_ne0 (by omega) (by omega)) ((pk_rem (by omega) (by omega) (by omega)).trans (congrArg nI (by omega))) ?_
  refine ce_istore dX8_does_31 (Nat.le_of_ble_eq_true rfl) rfl ?_
  refine ce_iload_n dX8_does_33 rfl ?_
  refine ce_bipush (v := nI (10)) dX8_does_34 (by decide) ?_
  refine ce_irem (z := nI (e % 10)) dX8_does_36 (nI_ne0 (by omega) (by omega)) ((pk_rem (by omega) (by omega) (by omega)).trans (congrArg nI (by omega))) ?_
  refine ce_istore dX8_does_37 (Nat.le_of_ble_eq_true rfl) rfl ?_
  refine ce_iload_n dX8_does_39 rfl ?_
  refine ce_bipush (v := nI (100)) dX8_does_40 (by decide) ?_
  refine ce_irem (z := nI (e)) dX8_does_42 (nI_ne0 (by omega) (by omega)) ((pk_rem (by omega) (by omega) (by omega)).trans (congrArg nI (he))) ?_
  refine ce_istore dX8_does_43 (Nat.le_of_ble_eq_true rfl) rfl ?_
  refine ce_iload_n dX8_does_45 rfl ?_
  refine ce_sipush (v := nI (1000)) dX8_does_46 (by decide) ?_
  refine ce_irem (z := nI ((G) % (1000))) dX8_does_49 (nI_ne0 (by omega) (by omega)) (pk_rem (by omega) (by omega) (by omega)) ?_
  refine ce_if_neN (tgt := 57) dX8_does_50 (by decide) rfl (by omega) (fun c_50 => ?_) (fun c_50 => ?_)
  · refine ce_iconst (v := nI (0)) dX8_does_57 (by decide) ?_
    refine ce_istore dX8_does_58 (Nat.le_of_ble_eq_true rfl) rfl ?_
    refine ce_iload_n dX8_does_60 rfl ?_
    refine ce_tableOut (tgt := 503) dX8_does_61 (by decide) (by decide) ?_
    refine ce_iconst (v := nI (0)) dX8_does_503 (by decide) ?_
    refine ce_iret dX8_does_504 rfl (by first | rfl | decide | (split <;> rfl)) (by decide) (by decide) ?_
    have eFt : kt_f K G = 9 := by unfold kt_f; rw [hq, ha, hb, he]; try rfl
    have eF : ¬ kt_f K G = 0 := fun q0 => by rw [eFt] at q0; omega
    rw [show ks_ite (kt_f K G) (kt_K K G) K = K from if_neg eF, show ks_ite (kt_f K G) (kt_O K O G) O = O from if_neg eF]
    exact ⟨_, rfl, rfl, (if_neg eF).symm, hr, fun _ _ _ => rfl⟩
  · refine ce_iconst (v := nI (1)) dX8_does_53 (by decide) ?_
    refine ce_goto (tgt := 58) dX8_does_54 (by decide) ?_
    refine ce_istore dX8_does_58 (Nat.le_of_ble_eq_true rfl) rfl ?_
    refine ce_iload_n dX8_does_60 rfl ?_
    refine ce_tableOut (tgt := 503) dX8_does_61 (by decide) (by decide) ?_
    refine ce_iconst (v := nI (0)) dX8_does_503 (by decide) ?_
    refine ce_iret dX8_does_504 rfl (by first | rfl | decide | (split <;> rfl)) (by decide) (by decide) ?_
    have eFt : kt_f K G = 9 := by unfold kt_f; rw [hq, ha, hb, he]; try rfl
    have eF : ¬ kt_f K G = 0 := fun q0 => by rw [eFt] at q0; omega
    rw [show ks_ite (kt_f K G) (kt_K K G) K = K from if_neg eF, show ks_ite (kt_f K G) (kt_O K O G) O = O from if_neg eF]
    exact ⟨_, rfl, rfl, (if_neg eF).symm, hr, fun _ _ _ => rfl⟩
set_option maxHeartbeats 2000000 in
set_option maxRecDepth 20000 in
theorem m_X8_does1 {σ : ce_S} {g : ce_D} (d : Nat) (K : ce_V) (O : Nat → Int32) (hD : ce_LM σ d) (hr : cr_row (g (d + 4)) (kq K) O) (hk : kv_cl K) (G : Nat) (hG : G < 100000) (hq : G / 10000 = 1) : ce_CT (ce_r 5) mX8_does [.ref (d), .int (nI (G))] σ g (ce_rv σ (fun z9 g1 => z9 = (if kt_f K G = 0 then 1 else 0) ∧ cr_row (g1 (d + 4)) (kq (ks_ite (kt_f K G) (kt_K K G) K)) (ks_ite (kt_f K G) (kt_O K O G) O) ∧ ∀ x, x ≠ d + 4 → x ≠ d + 8 → g1 x = g x)) ce_no := by
  have hB := hk.i7
  have hM := hk.me
  have hW := hk.wi
  have h8 : kq K 0 2 ≤ 8 := by rw [kq_ne (by decide)]; exact hB
  have eEmp : kv_emp (kq K) (kq K 0 2) = kv_emp K (K 0 2) := by rw [kq_emp, kq_ne (a := 0) (by decide)]
  have hst := hk.st
  obtain ⟨a, ha⟩ : ∃ a, G / 1000 % 10 = a := ⟨_, rfl⟩
  obtain ⟨b, hb⟩ : ∃ b, G / 100 % 10 = b := ⟨_, rfl⟩
  obtain ⟨e, he⟩ : ∃ e, G % 100 = e := ⟨_, rfl⟩
  have ha2 : a < 10 := by omega
  have hb2 : b < 10 := by omega
  have he2 : e < 100 := by omega
  have hsa := hst a
  have hsb := hst b
  refine ce_enter (by decide) rfl (Nat.le_of_ble_eq_true rfl) (L := [some (.ref (d)), some (.int (nI (G))), none, none, none, none, none, none, none]) rfl ?_
  refine ce_iload_n dX8_does_0 rfl ?_
  refine ce_sipush (v := nI (10000)) dX8_does_1 (by decide) ?_
  refine ce_idiv (z := nI (1)) dX8_does_4 (nI_ne0 (by omega) (by omega)) ((pk_div (by omega) (by omega) (by omega)).trans (congrArg nI hq)) ?_
  refine ce_istore_n dX8_does_5 (Nat.le_of_ble_eq_true rfl) rfl ?_
  refine ce_iload_n dX8_does_6 rfl ?_
  refine ce_sipush (v := nI (1000)) dX8_does_7 (by decide) ?_
  refine ce_idiv (z := nI ((G) / (1000))) dX8_does_10 (nI_ne0 (by omega) (by omega)) (pk_div (by omega) (by omega) (by omega)) ?_
  refine ce_bipush (v := nI (10)) dX8_does_11 (by decide) ?_
  refine ce_irem (z := nI (a)) dX8_does_13 (nI_ne0 (by omega) (by omega)) ((pk_rem (by omega) (by omega) (by omega)).trans (congrArg nI (ha))) ?_
  refine ce_istore_n dX8_does_14 (Nat.le_of_ble_eq_true rfl) rfl ?_
  refine ce_iload_n dX8_does_15 rfl ?_
  refine ce_bipush (v := nI (100)) dX8_does_16 (by decide) ?_
  refine ce_idiv (z := nI ((G) / (100))) dX8_does_18 (nI_ne0 (by omega) (by omega)) (pk_div (by omega) (by omega) (by omega)) ?_
  refine ce_bipush (v := nI (10)) dX8_does_19 (by decide) ?_
  refine ce_irem (z := nI (b)) dX8_does_21 (nI_ne0 (by omega) (by omega)) ((pk_rem (by omega) (by omega) (by omega)).trans (congrArg nI (hb))) ?_
  refine ce_istore dX8_does_22 (Nat.le_of_ble_eq_true rfl) rfl ?_
  refine ce_iload_n dX8_does_24 rfl ?_
  refine ce_bipush (v := nI (10)) dX8_does_25 (by decide) ?_
  refine ce_idiv (z := nI ((G) / (10))) dX8_does_27 (nI_ne0 (by omega) (by omega)) (pk_div (by omega) (by omega) (by omega)) ?_
  refine ce_bipush (v := nI (10)) dX8_does_28 (by decide) ?_
  refine ce_irem (z := nI (e / 10)) dX8_does_30 (nI_ne0 (by omega) (by omega)) ((pk_rem (by omega) (by omega) (by omega)).trans (congrArg nI (by omega))) ?_
  refine ce_istore dX8_does_31 (Nat.le_of_ble_eq_true rfl) rfl ?_
  refine ce_iload_n dX8_does_33 rfl ?_
  refine ce_bipush (v := nI (10)) dX8_does_34 (by decide) ?_
  refine ce_irem (z := nI (e % 10)) dX8_does_36 (nI_ne0 (by omega) (by omega)) ((pk_rem (by omega) (by omega) (by omega)).trans (congrArg nI (by omega))) ?_
  refine ce_istore dX8_does_37 (Nat.le_of_ble_eq_true rfl) rfl ?_
  refine ce_iload_n dX8_does_39 rfl ?_
  refine ce_bipush (v := nI (100)) dX8_does_40 (by decide) ?_
  refine ce_irem (z := nI (e)) dX8_does_42 (nI_ne0 (by omega) (by omega)) ((pk_rem (by omega) (by omega) (by omega)).trans (congrArg nI (he))) ?_
  refine ce_istore dX8_does_43 (Nat.le_of_ble_eq_true rfl) rfl ?_
  refine ce_iload_n dX8_does_45 rfl ?_
  refine ce_sipush (v := nI (1000)) dX8_does_46 (by decide) ?_
  refine ce_irem (z := nI ((G) % (1000))) dX8_does_49 (nI_ne0 (by omega) (by omega)) (pk_rem (by omega) (by omega) (by omega)) ?_
  refine ce_if_neN (tgt := 57) dX8_does_50 (by decide) rfl (by omega) (fun c_50 => ?_) (fun c_50 => ?_)
  · refine ce_iconst (v := nI (0)) dX8_does_57 (by decide) ?_
    refine ce_istore dX8_does_58 (Nat.le_of_ble_eq_true rfl) rfl ?_
    refine ce_iload_n dX8_does_60 rfl ?_
    refine ce_tableIn (off := 51) (tgt := 112) dX8_does_61 (by decide) (by decide) (by decide) (by decide) ?_
    refine ce_iload_n dX8_does_112 rfl ?_
    refine ce_aload_n dX8_does_113 rfl ?_
    refine ce_getR dX8_does_114 fRX8_19 hD.1 hD.2.1.2.2.2.1 ?_
    refine ce_iconst (v := nI (0)) dX8_does_117 (by decide) ?_
    refine ce_ialdv dX8_does_118 (hD.2.2.2.2.2.1).1 rfl (hD.2.2.2.2.2.1).2 (by omega) (by decide) (((hr).c0).trans (congrArg nI (by rw [kq_ne (by decide)]))) ?_
    refine ce_icmp_geN (tgt := 155) dX8_does_119 (by decide) rfl rfl (by omega) (by omega) (fun c_119 => ?_) (fun c_119 => ?_)
    · refine ce_iconst (v := nI (0)) dX8_does_155 (by decide) ?_
      refine ce_iret dX8_does_156 rfl (by first | rfl | decide | (split <;> rfl)) (by decide) (by decide) ?_
      have eFt : kt_f K G = kv_ordF K (nI a) (nI b) (nI e) := by unfold kt_f; rw [hq, ha, hb, he]; try rfl
      have eF : ¬ kt_f K G = 0 := fun q0 => by have q1 : a < K 0 0 ∧ b < K 0 1 ∧ e ≤ 60 ∧ K 5 b = 0 := (kv_ordI (by omega) (by omega) (by omega)).mp (eFt.symm.trans q0); omega
      rw [show ks_ite (kt_f K G) (kt_K K G) K = K from if_neg eF, show ks_ite (kt_f K G) (kt_O K O G) O = O from if_neg eF]
      exact ⟨_, rfl, rfl, (if_neg eF).symm, hr, fun _ _ _ => rfl⟩
    · refine ce_iload dX8_does_122 rfl ?_
      refine ce_aload_n dX8_does_124 rfl ?_
      refine ce_getR dX8_does_125 fRX8_19 hD.1 hD.2.1.2.2.2.1 ?_
      refine ce_iconst (v := nI (1)) dX8_does_128 (by decide) ?_
      refine ce_ialdv dX8_does_129 (hD.2.2.2.2.2.1).1 rfl (hD.2.2.2.2.2.1).2 (by omega) (by decide) (((hr).c1).trans (congrArg nI (by rw [kq_ne (by decide)]))) ?_
      refine ce_icmp_geN (tgt := 155) dX8_does_130 (by decide) rfl rfl (by omega) (by omega) (fun c_130 => ?_) (fun c_130 => ?_)
      · refine ce_iconst (v := nI (0)) dX8_does_155 (by decide) ?_
        refine ce_iret dX8_does_156 rfl (by first | rfl | decide | (split <;> rfl)) (by decide) (by decide) ?_
        have eFt : kt_f K G = kv_ordF K (nI a) (nI b) (nI e) := by unfold kt_f; rw [hq, ha, hb, he]; try rfl
        have eF : ¬ kt_f K G = 0 := fun q0 => by have q1 : a < K 0 0 ∧ b < K 0 1 ∧ e ≤ 60 ∧ K 5 b = 0 := (kv_ordI (by omega) (by omega) (by omega)).mp (eFt.symm.trans q0); omega
        rw [show ks_ite (kt_f K G) (kt_K K G) K = K from if_neg eF, show ks_ite (kt_f K G) (kt_O K O G) O = O from if_neg eF]
        exact ⟨_, rfl, rfl, (if_neg eF).symm, hr, fun _ _ _ => rfl⟩
      · refine ce_iload dX8_does_133 rfl ?_
        refine ce_bipush (v := nI (60)) dX8_does_135 (by decide) ?_
        refine ce_icmp_gtN (tgt := 155) dX8_does_137 (by decide) rfl rfl (by omega) (by omega) (fun c_137 => ?_) (fun c_137 => ?_)
        · refine ce_iconst (v := nI (0)) dX8_does_155 (by decide) ?_
          refine ce_iret dX8_does_156 rfl (by first | rfl | decide | (split <;> rfl)) (by decide) (by decide) ?_
          have eFt : kt_f K G = kv_ordF K (nI a) (nI b) (nI e) := by unfold kt_f; rw [hq, ha, hb, he]; try rfl
          have eF : ¬ kt_f K G = 0 := fun q0 => by have q1 : a < K 0 0 ∧ b < K 0 1 ∧ e ≤ 60 ∧ K 5 b = 0 := (kv_ordI (by omega) (by omega) (by omega)).mp (eFt.symm.trans q0); omega
          rw [show ks_ite (kt_f K G) (kt_K K G) K = K from if_neg eF, show ks_ite (kt_f K G) (kt_O K O G) O = O from if_neg eF]
          exact ⟨_, rfl, rfl, (if_neg eF).symm, hr, fun _ _ _ => rfl⟩
        · refine ce_aload_n dX8_does_140 rfl ?_
          refine ce_getR dX8_does_141 fRX8_19 hD.1 hD.2.1.2.2.2.1 ?_
          refine ce_iload dX8_does_144 rfl ?_
          refine ce_cSp dX8_does_146 hX8_wineAt kRX8_62 (m_X8_wineAt (b)) rfl rfl (by decide) (Nat.le_of_ble_eq_true rfl) ?_
          refine ce_iconst (v := nI (3)) dX8_does_149 (by decide) ?_
          refine ce_iadd (z := nI (21 + 6 * b + 3)) dX8_does_150 (nI_add _ _) ?_
          refine ce_ialdv dX8_does_151 (hD.2.2.2.2.2.1).1 rfl (hD.2.2.2.2.2.1).2 (by omega) (by decide) (((hr).w3 (by omega)).trans (congrArg nI (by rw [kq_ne (by decide)]))) ?_
          refine ce_if_eqN (tgt := 157) dX8_does_152 (by decide) rfl (by omega) (fun c_152 => ?_) (fun c_152 => ?_)
          · refine ce_aload_n dX8_does_157 rfl ?_
            refine ce_getR dX8_does_158 fRX8_19 hD.1 hD.2.1.2.2.2.1 ?_
            refine ce_iload_n dX8_does_161 rfl ?_
            refine ce_iload dX8_does_162 rfl ?_
            refine ce_cSp dX8_does_164 hX8_hold kRX8_54 (m_X8_hold (a) (b)) rfl rfl (by decide) (Nat.le_of_ble_eq_true rfl) ?_
            refine ce_iload dX8_does_167 rfl ?_
            refine ce_iast dX8_does_169 (hD.2.2.2.2.2.1).1 rfl (hD.2.2.2.2.2.1).2 (by omega) (by decide) ?_
            generalize hcg1 : ce_up g (d + 4) (81 + 18 * a + 3 * b) (nI (e)) = cg1
            have rcg1 : cr_row (cg1 (d + 4)) (kq (kv_ord K a b e)) O := by rw [← kq_ord, ← hcg1, ce_up_eq]; exact hr.uh0 (by omega) (by omega) (e)
            have fcg1 : ∀ x, x ≠ d + 4 → x ≠ d + 8 → cg1 x = g x := fun x h4 _ => by rw [← hcg1]; exact ce_up_ne _ _ _ h4
            refine ce_iconst (v := nI (1)) dX8_does_170 (by decide) ?_
            refine ce_iret dX8_does_171 rfl (by first | rfl | decide | (split <;> rfl)) (by decide) (by decide) ?_
            have eFt : kt_f K G = kv_ordF K (nI a) (nI b) (nI e) := by unfold kt_f; rw [hq, ha, hb, he]; try rfl
            have eF : kt_f K G = 0 := eFt.trans ((kv_ordI (by omega) (by omega) (by omega)).mpr (show a < K 0 0 ∧ b < K 0 1 ∧ e ≤ 60 ∧ K 5 b = 0 by omega))
            have eK : ks_ite (kt_f K G) (kt_K K G) K = kv_ord K a b e := by rw [show ks_ite (kt_f K G) (kt_K K G) K = kt_K K G from if_pos eF]; unfold kt_K; rw [hq, ha, hb, he]; try rfl
            have eO : ks_ite (kt_f K G) (kt_O K O G) O = O := by rw [show ks_ite (kt_f K G) (kt_O K O G) O = kt_O K O G from if_pos eF]; unfold kt_O; rw [hq]; try rfl
            rw [eK, eO]
            exact ⟨_, rfl, rfl, (if_pos eF).symm, rcg1, fcg1⟩
          · refine ce_iconst (v := nI (0)) dX8_does_155 (by decide) ?_
            refine ce_iret dX8_does_156 rfl (by first | rfl | decide | (split <;> rfl)) (by decide) (by decide) ?_
            have eFt : kt_f K G = kv_ordF K (nI a) (nI b) (nI e) := by unfold kt_f; rw [hq, ha, hb, he]; try rfl
            have eF : ¬ kt_f K G = 0 := fun q0 => by have q1 : a < K 0 0 ∧ b < K 0 1 ∧ e ≤ 60 ∧ K 5 b = 0 := (kv_ordI (by omega) (by omega) (by omega)).mp (eFt.symm.trans q0); omega
            rw [show ks_ite (kt_f K G) (kt_K K G) K = K from if_neg eF, show ks_ite (kt_f K G) (kt_O K O G) O = O from if_neg eF]
            exact ⟨_, rfl, rfl, (if_neg eF).symm, hr, fun _ _ _ => rfl⟩
  · refine ce_iconst (v := nI (1)) dX8_does_53 (by decide) ?_
    refine ce_goto (tgt := 58) dX8_does_54 (by decide) ?_
    refine ce_istore dX8_does_58 (Nat.le_of_ble_eq_true rfl) rfl ?_
    refine ce_iload_n dX8_does_60 rfl ?_
    refine ce_tableIn (off := 51) (tgt := 112) dX8_does_61 (by decide) (by decide) (by decide) (by decide) ?_
    refine ce_iload_n dX8_does_112 rfl ?_
    refine ce_aload_n dX8_does_113 rfl ?_
    refine ce_getR dX8_does_114 fRX8_19 hD.1 hD.2.1.2.2.2.1 ?_
    refine ce_iconst (v := nI (0)) dX8_does_117 (by decide) ?_
    refine ce_ialdv dX8_does_118 (hD.2.2.2.2.2.1).1 rfl (hD.2.2.2.2.2.1).2 (by omega) (by decide) (((hr).c0).trans (congrArg nI (by rw [kq_ne (by decide)]))) ?_
    refine ce_icmp_geN (tgt := 155) dX8_does_119 (by decide) rfl rfl (by omega) (by omega) (fun c_119 => ?_) (fun c_119 => ?_)
    · refine ce_iconst (v := nI (0)) dX8_does_155 (by decide) ?_
      refine ce_iret dX8_does_156 rfl (by first | rfl | decide | (split <;> rfl)) (by decide) (by decide) ?_
      have eFt : kt_f K G = kv_ordF K (nI a) (nI b) (nI e) := by unfold kt_f; rw [hq, ha, hb, he]; try rfl
      have eF : ¬ kt_f K G = 0 := fun q0 => by have q1 : a < K 0 0 ∧ b < K 0 1 ∧ e ≤ 60 ∧ K 5 b = 0 := (kv_ordI (by omega) (by omega) (by omega)).mp (eFt.symm.trans q0); omega
      rw [show ks_ite (kt_f K G) (kt_K K G) K = K from if_neg eF, show ks_ite (kt_f K G) (kt_O K O G) O = O from if_neg eF]
      exact ⟨_, rfl, rfl, (if_neg eF).symm, hr, fun _ _ _ => rfl⟩
    · refine ce_iload dX8_does_122 rfl ?_
      refine ce_aload_n dX8_does_124 rfl ?_
      refine ce_getR dX8_does_125 fRX8_19 hD.1 hD.2.1.2.2.2.1 ?_
      refine ce_iconst (v := nI (1)) dX8_does_128 (by decide) ?_
      refine ce_ialdv dX8_does_129 (hD.2.2.2.2.2.1).1 rfl (hD.2.2.2.2.2.1).2 (by omega) (by decide) (((hr).c1).trans (congrArg nI (by rw [kq_ne (by decide)]))) ?_
      refine ce_icmp_geN (tgt := 155) dX8_does_130 (by decide) rfl rfl (by omega) (by omega) (fun c_130 => ?_) (fun c_130 => ?_)
      · refine ce_iconst (v := nI (0)) dX8_does_155 (by decide) ?_
        refine ce_iret dX8_does_156 rfl (by first | rfl | decide | (split <;> rfl)) (by decide) (by decide) ?_
        have eFt : kt_f K G = kv_ordF K (nI a) (nI b) (nI e) := by unfold kt_f; rw [hq, ha, hb, he]; try rfl
        have eF : ¬ kt_f K G = 0 := fun q0 => by have q1 : a < K 0 0 ∧ b < K 0 1 ∧ e ≤ 60 ∧ K 5 b = 0 := (kv_ordI (by omega) (by omega) (by omega)).mp (eFt.symm.trans q0); omega
        rw [show ks_ite (kt_f K G) (kt_K K G) K = K from if_neg eF, show ks_ite (kt_f K G) (kt_O K O G) O = O from if_neg eF]
        exact ⟨_, rfl, rfl, (if_neg eF).symm, hr, fun _ _ _ => rfl⟩
      · refine ce_iload dX8_does_133 rfl ?_
        refine ce_bipush (v := nI (60)) dX8_does_135 (by decide) ?_
        refine ce_icmp_gtN (tgt := 155) dX8_does_137 (by decide) rfl rfl (by omega) (by omega) (fun c_137 => ?_) (fun c_137 => ?_)
        · refine ce_iconst (v := nI (0)) dX8_does_155 (by decide) ?_
          refine ce_iret dX8_does_156 rfl (by first | rfl | decide | (split <;> rfl)) (by decide) (by decide) ?_
          have eFt : kt_f K G = kv_ordF K (nI a) (nI b) (nI e) := by unfold kt_f; rw [hq, ha, hb, he]; try rfl
          have eF : ¬ kt_f K G = 0 := fun q0 => by have q1 : a < K 0 0 ∧ b < K 0 1 ∧ e ≤ 60 ∧ K 5 b = 0 := (kv_ordI (by omega) (by omega) (by omega)).mp (eFt.symm.trans q0); omega
          rw [show ks_ite (kt_f K G) (kt_K K G) K = K from if_neg eF, show ks_ite (kt_f K G) (kt_O K O G) O = O from if_neg eF]
          exact ⟨_, rfl, rfl, (if_neg eF).symm, hr, fun _ _ _ => rfl⟩
        · refine ce_aload_n dX8_does_140 rfl ?_
          refine ce_getR dX8_does_141 fRX8_19 hD.1 hD.2.1.2.2.2.1 ?_
          refine ce_iload dX8_does_144 rfl ?_
          refine ce_cSp dX8_does_146 hX8_wineAt kRX8_62 (m_X8_wineAt (b)) rfl rfl (by decide) (Nat.le_of_ble_eq_true rfl) ?_
          refine ce_iconst (v := nI (3)) dX8_does_149 (by decide) ?_
          refine ce_iadd (z := nI (21 + 6 * b + 3)) dX8_does_150 (nI_add _ _) ?_
          refine ce_ialdv dX8_does_151 (hD.2.2.2.2.2.1).1 rfl (hD.2.2.2.2.2.1).2 (by omega) (by decide) (((hr).w3 (by omega)).trans (congrArg nI (by rw [kq_ne (by decide)]))) ?_
          refine ce_if_eqN (tgt := 157) dX8_does_152 (by decide) rfl (by omega) (fun c_152 => ?_) (fun c_152 => ?_)
          · refine ce_aload_n dX8_does_157 rfl ?_
            refine ce_getR dX8_does_158 fRX8_19 hD.1 hD.2.1.2.2.2.1 ?_
            refine ce_iload_n dX8_does_161 rfl ?_
            refine ce_iload dX8_does_162 rfl ?_
            refine ce_cSp dX8_does_164 hX8_hold kRX8_54 (m_X8_hold (a) (b)) rfl rfl (by decide) (Nat.le_of_ble_eq_true rfl) ?_
            refine ce_iload dX8_does_167 rfl ?_
            refine ce_iast dX8_does_169 (hD.2.2.2.2.2.1).1 rfl (hD.2.2.2.2.2.1).2 (by omega) (by decide) ?_
            generalize hcg1 : ce_up g (d + 4) (81 + 18 * a + 3 * b) (nI (e)) = cg1
            have rcg1 : cr_row (cg1 (d + 4)) (kq (kv_ord K a b e)) O := by rw [← kq_ord, ← hcg1, ce_up_eq]; exact hr.uh0 (by omega) (by omega) (e)
            have fcg1 : ∀ x, x ≠ d + 4 → x ≠ d + 8 → cg1 x = g x := fun x h4 _ => by rw [← hcg1]; exact ce_up_ne _ _ _ h4
            refine ce_iconst (v := nI (1)) dX8_does_170 (by decide) ?_
            refine ce_iret dX8_does_171 rfl (by first | rfl | decide | (split <;> rfl)) (by decide) (by decide) ?_
            have eFt : kt_f K G = kv_ordF K (nI a) (nI b) (nI e) := by unfold kt_f; rw [hq, ha, hb, he]; try rfl
            have eF : kt_f K G = 0 := eFt.trans ((kv_ordI (by omega) (by omega) (by omega)).mpr (show a < K 0 0 ∧ b < K 0 1 ∧ e ≤ 60 ∧ K 5 b = 0 by omega))
            have eK : ks_ite (kt_f K G) (kt_K K G) K = kv_ord K a b e := by rw [show ks_ite (kt_f K G) (kt_K K G) K = kt_K K G from if_pos eF]; unfold kt_K; rw [hq, ha, hb, he]; try rfl
            have eO : ks_ite (kt_f K G) (kt_O K O G) O = O := by rw [show ks_ite (kt_f K G) (kt_O K O G) O = kt_O K O G from if_pos eF]; unfold kt_O; rw [hq]; try rfl
            rw [eK, eO]
            exact ⟨_, rfl, rfl, (if_pos eF).symm, rcg1, fcg1⟩
          · refine ce_iconst (v := nI (0)) dX8_does_155 (by decide) ?_
            refine ce_iret dX8_does_156 rfl (by first | rfl | decide | (split <;> rfl)) (by decide) (by decide) ?_
            have eFt : kt_f K G = kv_ordF K (nI a) (nI b) (nI e) := by unfold kt_f; rw [hq, ha, hb, he]; try rfl
            have eF : ¬ kt_f K G = 0 := fun q0 => by have q1 : a < K 0 0 ∧ b < K 0 1 ∧ e ≤ 60 ∧ K 5 b = 0 := (kv_ordI (by omega) (by omega) (by omega)).mp (eFt.symm.trans q0); omega
            rw [show ks_ite (kt_f K G) (kt_K K G) K = K from if_neg eF, show ks_ite (kt_f K G) (kt_O K O G) O = O from if_neg eF]
            exact ⟨_, rfl, rfl, (if_neg eF).symm, hr, fun _ _ _ => rfl⟩
set_option maxHeartbeats 2000000 in
set_option maxRecDepth 20000 in
theorem m_X8_does2 {σ : ce_S} {g : ce_D} (d : Nat) (K : ce_V) (O : Nat → Int32) (hD : ce_LM σ d) (hr : cr_row (g (d + 4)) (kq K) O) (hk : kv_cl K) (G : Nat) (hG : G < 100000) (hq : G / 10000 = 2) : ce_CT (ce_r 5) mX8_does [.ref (d), .int (nI (G))] σ g (ce_rv σ (fun z9 g1 => z9 = (if kt_f K G = 0 then 1 else 0) ∧ cr_row (g1 (d + 4)) (kq (ks_ite (kt_f K G) (kt_K K G) K)) (ks_ite (kt_f K G) (kt_O K O G) O) ∧ ∀ x, x ≠ d + 4 → x ≠ d + 8 → g1 x = g x)) ce_no := by
  have hB := hk.i7
  have hM := hk.me
  have hW := hk.wi
  have h8 : kq K 0 2 ≤ 8 := by rw [kq_ne (by decide)]; exact hB
  have eEmp : kv_emp (kq K) (kq K 0 2) = kv_emp K (K 0 2) := by rw [kq_emp, kq_ne (a := 0) (by decide)]
  have hst := hk.st
  obtain ⟨a, ha⟩ : ∃ a, G / 1000 % 10 = a := ⟨_, rfl⟩
  obtain ⟨b, hb⟩ : ∃ b, G / 100 % 10 = b := ⟨_, rfl⟩
  obtain ⟨e, he⟩ : ∃ e, G % 100 = e := ⟨_, rfl⟩
  have ha2 : a < 10 := by omega
  have hb2 : b < 10 := by omega
  have he2 : e < 100 := by omega
  have hsa := hst a
  have hsb := hst b
  refine ce_enter (by decide) rfl (Nat.le_of_ble_eq_true rfl) (L := [some (.ref (d)), some (.int (nI (G))), none, none, none, none, none, none, none]) rfl ?_
  refine ce_iload_n dX8_does_0 rfl ?_
  refine ce_sipush (v := nI (10000)) dX8_does_1 (by decide) ?_
  refine ce_idiv (z := nI (2)) dX8_does_4 (nI_ne0 (by omega) (by omega)) ((pk_div (by omega) (by omega) (by omega)).trans (congrArg nI hq)) ?_
  refine ce_istore_n dX8_does_5 (Nat.le_of_ble_eq_true rfl) rfl ?_
  refine ce_iload_n dX8_does_6 rfl ?_
  refine ce_sipush (v := nI (1000)) dX8_does_7 (by decide) ?_
  refine ce_idiv (z := nI ((G) / (1000))) dX8_does_10 (nI_ne0 (by omega) (by omega)) (pk_div (by omega) (by omega) (by omega)) ?_
  refine ce_bipush (v := nI (10)) dX8_does_11 (by decide) ?_
  refine ce_irem (z := nI (a)) dX8_does_13 (nI_ne0 (by omega) (by omega)) ((pk_rem (by omega) (by omega) (by omega)).trans (congrArg nI (ha))) ?_
  refine ce_istore_n dX8_does_14 (Nat.le_of_ble_eq_true rfl) rfl ?_
  refine ce_iload_n dX8_does_15 rfl ?_
  refine ce_bipush (v := nI (100)) dX8_does_16 (by decide) ?_
  refine ce_idiv (z := nI ((G) / (100))) dX8_does_18 (nI_ne0 (by omega) (by omega)) (pk_div (by omega) (by omega) (by omega)) ?_
  refine ce_bipush (v := nI (10)) dX8_does_19 (by decide) ?_
  refine ce_irem (z := nI (b)) dX8_does_21 (nI_ne0 (by omega) (by omega)) ((pk_rem (by omega) (by omega) (by omega)).trans (congrArg nI (hb))) ?_
  refine ce_istore dX8_does_22 (Nat.le_of_ble_eq_true rfl) rfl ?_
  refine ce_iload_n dX8_does_24 rfl ?_
  refine ce_bipush (v := nI (10)) dX8_does_25 (by decide) ?_
  refine ce_idiv (z := nI ((G) / (10))) dX8_does_27 (nI_ne0 (by omega) (by omega)) (pk_div (by omega) (by omega) (by omega)) ?_
  refine ce_bipush (v := nI (10)) dX8_does_28 (by decide) ?_
  refine ce_irem (z := nI (e / 10)) dX8_does_30 (nI_ne0 (by omega) (by omega)) ((pk_rem (by omega) (by omega) (by omega)).trans (congrArg nI (by omega))) ?_
  refine ce_istore dX8_does_31 (Nat.le_of_ble_eq_true rfl) rfl ?_
  refine ce_iload_n dX8_does_33 rfl ?_
  refine ce_bipush (v := nI (10)) dX8_does_34 (by decide) ?_
  refine ce_irem (z := nI (e % 10)) dX8_does_36 (nI_ne0 (by omega) (by omega)) ((pk_rem (by omega) (by omega) (by omega)).trans (congrArg nI (by omega))) ?_
  refine ce_istore dX8_does_37 (Nat.le_of_ble_eq_true rfl) rfl ?_
  refine ce_iload_n dX8_does_39 rfl ?_
  refine ce_bipush (v := nI (100)) dX8_does_40 (by decide) ?_
  refine ce_irem (z := nI (e)) dX8_does_42 (nI_ne0 (by omega) (by omega)) ((pk_rem (by omega) (by omega) (by omega)).trans (congrArg nI (he))) ?_
  refine ce_istore dX8_does_43 (Nat.le_of_ble_eq_true rfl) rfl ?_
  refine ce_iload_n dX8_does_45 rfl ?_
  refine ce_sipush (v := nI (1000)) dX8_does_46 (by decide) ?_
  refine ce_irem (z := nI ((G) % (1000))) dX8_does_49 (nI_ne0 (by omega) (by omega)) (pk_rem (by omega) (by omega) (by omega)) ?_
  refine ce_if_neN (tgt := 57) dX8_does_50 (by decide) rfl (by omega) (fun c_50 => ?_) (fun c_50 => ?_)
  · refine ce_iconst (v := nI (0)) dX8_does_57 (by decide) ?_
    refine ce_istore dX8_does_58 (Nat.le_of_ble_eq_true rfl) rfl ?_
    refine ce_iload_n dX8_does_60 rfl ?_
    refine ce_tableIn (off := 111) (tgt := 172) dX8_does_61 (by decide) (by decide) (by decide) (by decide) ?_
    refine ce_iload dX8_does_172 rfl ?_
    refine ce_if_eqN (tgt := 201) dX8_does_174 (by decide) rfl (by omega) (fun c_174 => ?_) (fun c_174 => ?_)
    · refine ce_iconst (v := nI (0)) dX8_does_201 (by decide) ?_
      refine ce_iret dX8_does_202 rfl (by first | rfl | decide | (split <;> rfl)) (by decide) (by decide) ?_
      have eFt : kt_f K G = (if b = 0 ∧ e = 0 then kv_allF K (nI a) else 9) := by unfold kt_f; rw [hq, ha, hb, he]; try rfl
      have eF : ¬ kt_f K G = 0 := fun q0 => by
        rw [eFt] at q0
        by_cases q2 : b = 0 ∧ e = 0
        · rw [if_pos q2] at q0; have q1 : a < K 0 1 ∧ K 5 a = 0 := (kv_allI (by omega)).mp q0; omega
        · rw [if_neg q2] at q0; omega
      rw [show ks_ite (kt_f K G) (kt_K K G) K = K from if_neg eF, show ks_ite (kt_f K G) (kt_O K O G) O = O from if_neg eF]
      exact ⟨_, rfl, rfl, (if_neg eF).symm, hr, fun _ _ _ => rfl⟩
    · omega
  · refine ce_iconst (v := nI (1)) dX8_does_53 (by decide) ?_
    refine ce_goto (tgt := 58) dX8_does_54 (by decide) ?_
    refine ce_istore dX8_does_58 (Nat.le_of_ble_eq_true rfl) rfl ?_
    refine ce_iload_n dX8_does_60 rfl ?_
    refine ce_tableIn (off := 111) (tgt := 172) dX8_does_61 (by decide) (by decide) (by decide) (by decide) ?_
    refine ce_iload dX8_does_172 rfl ?_
    refine ce_if_eqN (tgt := 201) dX8_does_174 (by decide) rfl (by omega) (fun c_174 => ?_) (fun c_174 => ?_)
    · omega
    · refine ce_iload_n dX8_does_177 rfl ?_
      refine ce_aload_n dX8_does_178 rfl ?_
      refine ce_getR dX8_does_179 fRX8_19 hD.1 hD.2.1.2.2.2.1 ?_
      refine ce_iconst (v := nI (1)) dX8_does_182 (by decide) ?_
      refine ce_ialdv dX8_does_183 (hD.2.2.2.2.2.1).1 rfl (hD.2.2.2.2.2.1).2 (by omega) (by decide) (((hr).c1).trans (congrArg nI (by rw [kq_ne (by decide)]))) ?_
      refine ce_icmp_geN (tgt := 201) dX8_does_184 (by decide) rfl rfl (by omega) (by omega) (fun c_184 => ?_) (fun c_184 => ?_)
      · refine ce_iconst (v := nI (0)) dX8_does_201 (by decide) ?_
        refine ce_iret dX8_does_202 rfl (by first | rfl | decide | (split <;> rfl)) (by decide) (by decide) ?_
        have eFt : kt_f K G = (if b = 0 ∧ e = 0 then kv_allF K (nI a) else 9) := by unfold kt_f; rw [hq, ha, hb, he]; try rfl
        have eF : ¬ kt_f K G = 0 := fun q0 => by
          rw [eFt] at q0
          by_cases q2 : b = 0 ∧ e = 0
          · rw [if_pos q2] at q0; have q1 : a < K 0 1 ∧ K 5 a = 0 := (kv_allI (by omega)).mp q0; omega
          · rw [if_neg q2] at q0; omega
        rw [show ks_ite (kt_f K G) (kt_K K G) K = K from if_neg eF, show ks_ite (kt_f K G) (kt_O K O G) O = O from if_neg eF]
        exact ⟨_, rfl, rfl, (if_neg eF).symm, hr, fun _ _ _ => rfl⟩
      · refine ce_aload_n dX8_does_187 rfl ?_
        refine ce_getR dX8_does_188 fRX8_19 hD.1 hD.2.1.2.2.2.1 ?_
        refine ce_iload_n dX8_does_191 rfl ?_
        refine ce_cSp dX8_does_192 hX8_wineAt kRX8_62 (m_X8_wineAt (a)) rfl rfl (by decide) (Nat.le_of_ble_eq_true rfl) ?_
        refine ce_iconst (v := nI (3)) dX8_does_195 (by decide) ?_
        refine ce_iadd (z := nI (21 + 6 * a + 3)) dX8_does_196 (nI_add _ _) ?_
        refine ce_ialdv dX8_does_197 (hD.2.2.2.2.2.1).1 rfl (hD.2.2.2.2.2.1).2 (by omega) (by decide) (((hr).w3 (by omega)).trans (congrArg nI (by rw [kq_ne (by decide)]))) ?_
        refine ce_if_eqN (tgt := 203) dX8_does_198 (by decide) rfl (by omega) (fun c_198 => ?_) (fun c_198 => ?_)
        · refine ce_aload_n dX8_does_203 rfl ?_
          refine ce_aload_n dX8_does_204 rfl ?_
          refine ce_getR dX8_does_205 fRX8_19 hD.1 hD.2.1.2.2.2.1 ?_
          refine ce_iload_n dX8_does_208 rfl ?_
          refine ce_cVr dX8_does_209 hX8_goAllocate kRX8_203 (n_goAllocate (r := d + 4) hD ⟨(hD.2.2.2.2.2.1).1, (hD.2.2.2.2.2.1).2⟩ hk hr (by omega) (a) (by omega) (by omega)) rfl rfl hD.1 rfl (by decide) (Nat.le_of_ble_eq_true rfl) (fun rcg1 cg1 hcg1 => ?_)
          refine ce_pop dX8_does_212 rfl ?_
          refine ce_iconst (v := nI (1)) dX8_does_213 (by decide) ?_
          refine ce_iret dX8_does_214 rfl (by first | rfl | decide | (split <;> rfl)) (by decide) (by decide) ?_
          have eFt : kt_f K G = (if b = 0 ∧ e = 0 then kv_allF K (nI a) else 9) := by unfold kt_f; rw [hq, ha, hb, he]; try rfl
          have eF : kt_f K G = 0 := (eFt.trans (if_pos ⟨by omega, by omega⟩)).trans ((kv_allI (by omega)).mpr (show a < K 0 1 ∧ K 5 a = 0 by omega))
          have eK : ks_ite (kt_f K G) (kt_K K G) K = kv_all K a := by rw [show ks_ite (kt_f K G) (kt_K K G) K = kt_K K G from if_pos eF]; unfold kt_K; rw [hq, ha]; try rfl
          have eO : ks_ite (kt_f K G) (kt_O K O G) O = ko_all K a O := by rw [show ks_ite (kt_f K G) (kt_O K O G) O = kt_O K O G from if_pos eF]; unfold kt_O; rw [hq, ha]; try rfl
          rw [eK, eO]
          exact ⟨_, rfl, rfl, (if_pos eF).symm, hcg1.2.1, (fun x h4 h8 => hcg1.2.2 x h8 h4)⟩
        · refine ce_iconst (v := nI (0)) dX8_does_201 (by decide) ?_
          refine ce_iret dX8_does_202 rfl (by first | rfl | decide | (split <;> rfl)) (by decide) (by decide) ?_
          have eFt : kt_f K G = (if b = 0 ∧ e = 0 then kv_allF K (nI a) else 9) := by unfold kt_f; rw [hq, ha, hb, he]; try rfl
          have eF : ¬ kt_f K G = 0 := fun q0 => by
            rw [eFt] at q0
            by_cases q2 : b = 0 ∧ e = 0
            · rw [if_pos q2] at q0; have q1 : a < K 0 1 ∧ K 5 a = 0 := (kv_allI (by omega)).mp q0; omega
            · rw [if_neg q2] at q0; omega
          rw [show ks_ite (kt_f K G) (kt_K K G) K = K from if_neg eF, show ks_ite (kt_f K G) (kt_O K O G) O = O from if_neg eF]
          exact ⟨_, rfl, rfl, (if_neg eF).symm, hr, fun _ _ _ => rfl⟩
set_option maxHeartbeats 2000000 in
set_option maxRecDepth 20000 in
theorem m_X8_does3 {σ : ce_S} {g : ce_D} (d : Nat) (K : ce_V) (O : Nat → Int32) (hD : ce_LM σ d) (hr : cr_row (g (d + 4)) (kq K) O) (hk : kv_cl K) (G : Nat) (hG : G < 100000) (hq : G / 10000 = 3) : ce_CT (ce_r 5) mX8_does [.ref (d), .int (nI (G))] σ g (ce_rv σ (fun z9 g1 => z9 = (if kt_f K G = 0 then 1 else 0) ∧ cr_row (g1 (d + 4)) (kq (ks_ite (kt_f K G) (kt_K K G) K)) (ks_ite (kt_f K G) (kt_O K O G) O) ∧ ∀ x, x ≠ d + 4 → x ≠ d + 8 → g1 x = g x)) ce_no := by
  have hB := hk.i7
  have hM := hk.me
  have hW := hk.wi
  have h8 : kq K 0 2 ≤ 8 := by rw [kq_ne (by decide)]; exact hB
  have eEmp : kv_emp (kq K) (kq K 0 2) = kv_emp K (K 0 2) := by rw [kq_emp, kq_ne (a := 0) (by decide)]
  have hst := hk.st
  obtain ⟨a, ha⟩ : ∃ a, G / 1000 % 10 = a := ⟨_, rfl⟩
  obtain ⟨b, hb⟩ : ∃ b, G / 100 % 10 = b := ⟨_, rfl⟩
  obtain ⟨e, he⟩ : ∃ e, G % 100 = e := ⟨_, rfl⟩
  have ha2 : a < 10 := by omega
  have hb2 : b < 10 := by omega
  have he2 : e < 100 := by omega
  have hsa := hst a
  have hsb := hst b
  refine ce_enter (by decide) rfl (Nat.le_of_ble_eq_true rfl) (L := [some (.ref (d)), some (.int (nI (G))), none, none, none, none, none, none, none]) rfl ?_
  refine ce_iload_n dX8_does_0 rfl ?_
  refine ce_sipush (v := nI (10000)) dX8_does_1 (by decide) ?_
  refine ce_idiv (z := nI (3)) dX8_does_4 (nI_ne0 (by omega) (by omega)) ((pk_div (by omega) (by omega) (by omega)).trans (congrArg nI hq)) ?_
  refine ce_istore_n dX8_does_5 (Nat.le_of_ble_eq_true rfl) rfl ?_
  refine ce_iload_n dX8_does_6 rfl ?_
  refine ce_sipush (v := nI (1000)) dX8_does_7 (by decide) ?_
  refine ce_idiv (z := nI ((G) / (1000))) dX8_does_10 (nI_ne0 (by omega) (by omega)) (pk_div (by omega) (by omega) (by omega)) ?_
  refine ce_bipush (v := nI (10)) dX8_does_11 (by decide) ?_
  refine ce_irem (z := nI (a)) dX8_does_13 (nI_ne0 (by omega) (by omega)) ((pk_rem (by omega) (by omega) (by omega)).trans (congrArg nI (ha))) ?_
  refine ce_istore_n dX8_does_14 (Nat.le_of_ble_eq_true rfl) rfl ?_
  refine ce_iload_n dX8_does_15 rfl ?_
  refine ce_bipush (v := nI (100)) dX8_does_16 (by decide) ?_
  refine ce_idiv (z := nI ((G) / (100))) dX8_does_18 (nI_ne0 (by omega) (by omega)) (pk_div (by omega) (by omega) (by omega)) ?_
  refine ce_bipush (v := nI (10)) dX8_does_19 (by decide) ?_
  refine ce_irem (z := nI (b)) dX8_does_21 (nI_ne0 (by omega) (by omega)) ((pk_rem (by omega) (by omega) (by omega)).trans (congrArg nI (hb))) ?_
  refine ce_istore dX8_does_22 (Nat.le_of_ble_eq_true rfl) rfl ?_
  refine ce_iload_n dX8_does_24 rfl ?_
  refine ce_bipush (v := nI (10)) dX8_does_25 (by decide) ?_
  refine ce_idiv (z := nI ((G) / (10))) dX8_does_27 (nI_ne0 (by omega) (by omega)) (pk_div (by omega) (by omega) (by omega)) ?_
  refine ce_bipush (v := nI (10)) dX8_does_28 (by decide) ?_
  refine ce_irem (z := nI (e / 10)) dX8_does_30 (nI_ne0 (by omega) (by omega)) ((pk_rem (by omega) (by omega) (by omega)).trans (congrArg nI (by omega))) ?_
  refine ce_istore dX8_does_31 (Nat.le_of_ble_eq_true rfl) rfl ?_
  refine ce_iload_n dX8_does_33 rfl ?_
  refine ce_bipush (v := nI (10)) dX8_does_34 (by decide) ?_
  refine ce_irem (z := nI (e % 10)) dX8_does_36 (nI_ne0 (by omega) (by omega)) ((pk_rem (by omega) (by omega) (by omega)).trans (congrArg nI (by omega))) ?_
  refine ce_istore dX8_does_37 (Nat.le_of_ble_eq_true rfl) rfl ?_
  refine ce_iload_n dX8_does_39 rfl ?_
  refine ce_bipush (v := nI (100)) dX8_does_40 (by decide) ?_
  refine ce_irem (z := nI (e)) dX8_does_42 (nI_ne0 (by omega) (by omega)) ((pk_rem (by omega) (by omega) (by omega)).trans (congrArg nI (he))) ?_
  refine ce_istore dX8_does_43 (Nat.le_of_ble_eq_true rfl) rfl ?_
  refine ce_iload_n dX8_does_45 rfl ?_
  refine ce_sipush (v := nI (1000)) dX8_does_46 (by decide) ?_
  refine ce_irem (z := nI ((G) % (1000))) dX8_does_49 (nI_ne0 (by omega) (by omega)) (pk_rem (by omega) (by omega) (by omega)) ?_
  refine ce_if_neN (tgt := 57) dX8_does_50 (by decide) rfl (by omega) (fun c_50 => ?_) (fun c_50 => ?_)
  · refine ce_iconst (v := nI (0)) dX8_does_57 (by decide) ?_
    refine ce_istore dX8_does_58 (Nat.le_of_ble_eq_true rfl) rfl ?_
    refine ce_iload_n dX8_does_60 rfl ?_
    refine ce_tableIn (off := 154) (tgt := 215) dX8_does_61 (by decide) (by decide) (by decide) (by decide) ?_
    refine ce_iload dX8_does_215 rfl ?_
    refine ce_if_eqN (tgt := 241) dX8_does_217 (by decide) rfl (by omega) (fun c_217 => ?_) (fun c_217 => ?_)
    · refine ce_iconst (v := nI (0)) dX8_does_241 (by decide) ?_
      refine ce_iret dX8_does_242 rfl (by first | rfl | decide | (split <;> rfl)) (by decide) (by decide) ?_
      have eFt : kt_f K G = (if b = 0 ∧ e = 0 then kv_delF K (nI a) else 9) := by unfold kt_f; rw [hq, ha, hb, he]; try rfl
      have eF : ¬ kt_f K G = 0 := fun q0 => by
        rw [eFt] at q0
        by_cases q2 : b = 0 ∧ e = 0
        · rw [if_pos q2] at q0; have q1 : a < K 0 1 ∧ K 5 a = 1 ∧ kv_sum K 8 a ≤ ce_sum (kv_room K a) (K 0 2) := (kv_delI (by omega)).mp q0; omega
        · rw [if_neg q2] at q0; omega
      rw [show ks_ite (kt_f K G) (kt_K K G) K = K from if_neg eF, show ks_ite (kt_f K G) (kt_O K O G) O = O from if_neg eF]
      exact ⟨_, rfl, rfl, (if_neg eF).symm, hr, fun _ _ _ => rfl⟩
    · omega
  · refine ce_iconst (v := nI (1)) dX8_does_53 (by decide) ?_
    refine ce_goto (tgt := 58) dX8_does_54 (by decide) ?_
    refine ce_istore dX8_does_58 (Nat.le_of_ble_eq_true rfl) rfl ?_
    refine ce_iload_n dX8_does_60 rfl ?_
    refine ce_tableIn (off := 154) (tgt := 215) dX8_does_61 (by decide) (by decide) (by decide) (by decide) ?_
    refine ce_iload dX8_does_215 rfl ?_
    refine ce_if_eqN (tgt := 241) dX8_does_217 (by decide) rfl (by omega) (fun c_217 => ?_) (fun c_217 => ?_)
    · omega
    · refine ce_iload_n dX8_does_220 rfl ?_
      refine ce_aload_n dX8_does_221 rfl ?_
      refine ce_getR dX8_does_222 fRX8_19 hD.1 hD.2.1.2.2.2.1 ?_
      refine ce_iconst (v := nI (1)) dX8_does_225 (by decide) ?_
      refine ce_ialdv dX8_does_226 (hD.2.2.2.2.2.1).1 rfl (hD.2.2.2.2.2.1).2 (by omega) (by decide) (((hr).c1).trans (congrArg nI (by rw [kq_ne (by decide)]))) ?_
      refine ce_icmp_geN (tgt := 241) dX8_does_227 (by decide) rfl rfl (by omega) (by omega) (fun c_227 => ?_) (fun c_227 => ?_)
      · refine ce_iconst (v := nI (0)) dX8_does_241 (by decide) ?_
        refine ce_iret dX8_does_242 rfl (by first | rfl | decide | (split <;> rfl)) (by decide) (by decide) ?_
        have eFt : kt_f K G = (if b = 0 ∧ e = 0 then kv_delF K (nI a) else 9) := by unfold kt_f; rw [hq, ha, hb, he]; try rfl
        have eF : ¬ kt_f K G = 0 := fun q0 => by
          rw [eFt] at q0
          by_cases q2 : b = 0 ∧ e = 0
          · rw [if_pos q2] at q0; have q1 : a < K 0 1 ∧ K 5 a = 1 ∧ kv_sum K 8 a ≤ ce_sum (kv_room K a) (K 0 2) := (kv_delI (by omega)).mp q0; omega
          · rw [if_neg q2] at q0; omega
        rw [show ks_ite (kt_f K G) (kt_K K G) K = K from if_neg eF, show ks_ite (kt_f K G) (kt_O K O G) O = O from if_neg eF]
        exact ⟨_, rfl, rfl, (if_neg eF).symm, hr, fun _ _ _ => rfl⟩
      · refine ce_aload_n dX8_does_230 rfl ?_
        refine ce_getR dX8_does_231 fRX8_19 hD.1 hD.2.1.2.2.2.1 ?_
        refine ce_iload_n dX8_does_234 rfl ?_
        refine ce_cSp dX8_does_235 hX8_canDeliver kRX8_206 (n_canDeliver ⟨(hD.2.2.2.2.2.1).1, (hD.2.2.2.2.2.1).2⟩ hk hr (a) (by omega)) rfl rfl (by decide) (Nat.le_of_ble_eq_true rfl) ?_
        refine ce_if_neB (tgt := 243) dX8_does_238 (by decide) rfl (fun c_238 => ?_) (fun c_238 => ?_)
        · refine ce_aload_n dX8_does_243 rfl ?_
          refine ce_getR dX8_does_244 fRX8_19 hD.1 hD.2.1.2.2.2.1 ?_
          refine ce_iload_n dX8_does_247 rfl ?_
          refine ce_cSr dX8_does_248 hX8_goDeliver kRX8_210 (n_goDeliver ⟨(hD.2.2.2.2.2.1).1, (hD.2.2.2.2.2.1).2⟩ hk hr (a) (by omega) (by omega) (by omega)) rfl rfl (by decide) (Nat.le_of_ble_eq_true rfl) (fun rcg1 cg1 hcg1 => ?_)
          refine ce_pop dX8_does_251 rfl ?_
          refine ce_iconst (v := nI (1)) dX8_does_252 (by decide) ?_
          refine ce_iret dX8_does_253 rfl (by first | rfl | decide | (split <;> rfl)) (by decide) (by decide) ?_
          have eFt : kt_f K G = (if b = 0 ∧ e = 0 then kv_delF K (nI a) else 9) := by unfold kt_f; rw [hq, ha, hb, he]; try rfl
          have eF : kt_f K G = 0 := (eFt.trans (if_pos ⟨by omega, by omega⟩)).trans ((kv_delI (by omega)).mpr (show a < K 0 1 ∧ K 5 a = 1 ∧ kv_sum K 8 a ≤ ce_sum (kv_room K a) (K 0 2) by omega))
          have eK : ks_ite (kt_f K G) (kt_K K G) K = kv_bri K a := by rw [show ks_ite (kt_f K G) (kt_K K G) K = kt_K K G from if_pos eF]; unfold kt_K; rw [hq, ha]; try rfl
          have eO : ks_ite (kt_f K G) (kt_O K O G) O = ko_bri K a O := by rw [show ks_ite (kt_f K G) (kt_O K O G) O = kt_O K O G from if_pos eF]; unfold kt_O; rw [hq, ha]; try rfl
          rw [eK, eO]
          exact ⟨_, rfl, rfl, (if_pos eF).symm, hcg1.2.1, (fun x h4 h8 => hcg1.2.2 x h4)⟩
        · refine ce_iconst (v := nI (0)) dX8_does_241 (by decide) ?_
          refine ce_iret dX8_does_242 rfl (by first | rfl | decide | (split <;> rfl)) (by decide) (by decide) ?_
          have eFt : kt_f K G = (if b = 0 ∧ e = 0 then kv_delF K (nI a) else 9) := by unfold kt_f; rw [hq, ha, hb, he]; try rfl
          have eF : ¬ kt_f K G = 0 := fun q0 => by
            rw [eFt] at q0
            by_cases q2 : b = 0 ∧ e = 0
            · rw [if_pos q2] at q0; have q1 : a < K 0 1 ∧ K 5 a = 1 ∧ kv_sum K 8 a ≤ ce_sum (kv_room K a) (K 0 2) := (kv_delI (by omega)).mp q0; omega
            · rw [if_neg q2] at q0; omega
          rw [show ks_ite (kt_f K G) (kt_K K G) K = K from if_neg eF, show ks_ite (kt_f K G) (kt_O K O G) O = O from if_neg eF]
          exact ⟨_, rfl, rfl, (if_neg eF).symm, hr, fun _ _ _ => rfl⟩
set_option maxHeartbeats 2000000 in
set_option maxRecDepth 20000 in
theorem m_X8_does4 {σ : ce_S} {g : ce_D} (d : Nat) (K : ce_V) (O : Nat → Int32) (hD : ce_LM σ d) (hr : cr_row (g (d + 4)) (kq K) O) (hk : kv_cl K) (G : Nat) (hG : G < 100000) (hq : G / 10000 = 4) : ce_CT (ce_r 5) mX8_does [.ref (d), .int (nI (G))] σ g (ce_rv σ (fun z9 g1 => z9 = (if kt_f K G = 0 then 1 else 0) ∧ cr_row (g1 (d + 4)) (kq (ks_ite (kt_f K G) (kt_K K G) K)) (ks_ite (kt_f K G) (kt_O K O G) O) ∧ ∀ x, x ≠ d + 4 → x ≠ d + 8 → g1 x = g x)) ce_no := by
  have hB := hk.i7
  have hM := hk.me
  have hW := hk.wi
  have h8 : kq K 0 2 ≤ 8 := by rw [kq_ne (by decide)]; exact hB
  have eEmp : kv_emp (kq K) (kq K 0 2) = kv_emp K (K 0 2) := by rw [kq_emp, kq_ne (a := 0) (by decide)]
  have hst := hk.st
  obtain ⟨a, ha⟩ : ∃ a, G / 1000 % 10 = a := ⟨_, rfl⟩
  obtain ⟨b, hb⟩ : ∃ b, G / 100 % 10 = b := ⟨_, rfl⟩
  obtain ⟨e, he⟩ : ∃ e, G % 100 = e := ⟨_, rfl⟩
  have ha2 : a < 10 := by omega
  have hb2 : b < 10 := by omega
  have he2 : e < 100 := by omega
  have hsa := hst a
  have hsb := hst b
  have hl9 : ∀ m w, m < K 0 0 → w < K 0 1 → K 9 (m * 6 + w) ≤ 60 := fun m w h1 h2 => (hk.le (by omega) (by omega)).2.1
  refine ce_enter (by decide) rfl (Nat.le_of_ble_eq_true rfl) (L := [some (.ref (d)), some (.int (nI (G))), none, none, none, none, none, none, none]) rfl ?_
  refine ce_iload_n dX8_does_0 rfl ?_
  refine ce_sipush (v := nI (10000)) dX8_does_1 (by decide) ?_
  refine ce_idiv (z := nI (4)) dX8_does_4 (nI_ne0 (by omega) (by omega)) ((pk_div (by omega) (by omega) (by omega)).trans (congrArg nI hq)) ?_
  refine ce_istore_n dX8_does_5 (Nat.le_of_ble_eq_true rfl) rfl ?_
  refine ce_iload_n dX8_does_6 rfl ?_
  refine ce_sipush (v := nI (1000)) dX8_does_7 (by decide) ?_
  refine ce_idiv (z := nI ((G) / (1000))) dX8_does_10 (nI_ne0 (by omega) (by omega)) (pk_div (by omega) (by omega) (by omega)) ?_
  refine ce_bipush (v := nI (10)) dX8_does_11 (by decide) ?_
  refine ce_irem (z := nI (a)) dX8_does_13 (nI_ne0 (by omega) (by omega)) ((pk_rem (by omega) (by omega) (by omega)).trans (congrArg nI (ha))) ?_
  refine ce_istore_n dX8_does_14 (Nat.le_of_ble_eq_true rfl) rfl ?_
  refine ce_iload_n dX8_does_15 rfl ?_
  refine ce_bipush (v := nI (100)) dX8_does_16 (by decide) ?_
  refine ce_idiv (z := nI ((G) / (100))) dX8_does_18 (nI_ne0 (by omega) (by omega)) (pk_div (by omega) (by omega) (by omega)) ?_
  refine ce_bipush (v := nI (10)) dX8_does_19 (by decide) ?_
  refine ce_irem (z := nI (b)) dX8_does_21 (nI_ne0 (by omega) (by omega)) ((pk_rem (by omega) (by omega) (by omega)).trans (congrArg nI (hb))) ?_
  refine ce_istore dX8_does_22 (Nat.le_of_ble_eq_true rfl) rfl ?_
  refine ce_iload_n dX8_does_24 rfl ?_
  refine ce_bipush (v := nI (10)) dX8_does_25 (by decide) ?_
  refine ce_idiv (z := nI ((G) / (10))) dX8_does_27 (nI_ne0 (by omega) (by omega)) (pk_div (by omega) (by omega) (by omega)) ?_
  refine ce_bipush (v := nI (10)) dX8_does_28 (by decide) ?_
  refine ce_irem (z := nI (e / 10)) dX8_does_30 (nI_ne0 (by omega) (by omega)) ((pk_rem (by omega) (by omega) (by omega)).trans (congrArg nI (by omega))) ?_
  refine ce_istore dX8_does_31 (Nat.le_of_ble_eq_true rfl) rfl ?_
  refine ce_iload_n dX8_does_33 rfl ?_
  refine ce_bipush (v := nI (10)) dX8_does_34 (by decide) ?_
  refine ce_irem (z := nI (e % 10)) dX8_does_36 (nI_ne0 (by omega) (by omega)) ((pk_rem (by omega) (by omega) (by omega)).trans (congrArg nI (by omega))) ?_
  refine ce_istore dX8_does_37 (Nat.le_of_ble_eq_true rfl) rfl ?_
  refine ce_iload_n dX8_does_39 rfl ?_
  refine ce_bipush (v := nI (100)) dX8_does_40 (by decide) ?_
  refine ce_irem (z := nI (e)) dX8_does_42 (nI_ne0 (by omega) (by omega)) ((pk_rem (by omega) (by omega) (by omega)).trans (congrArg nI (he))) ?_
  refine ce_istore dX8_does_43 (Nat.le_of_ble_eq_true rfl) rfl ?_
  refine ce_iload_n dX8_does_45 rfl ?_
  refine ce_sipush (v := nI (1000)) dX8_does_46 (by decide) ?_
  refine ce_irem (z := nI ((G) % (1000))) dX8_does_49 (nI_ne0 (by omega) (by omega)) (pk_rem (by omega) (by omega) (by omega)) ?_
  refine ce_if_neN (tgt := 57) dX8_does_50 (by decide) rfl (by omega) (fun c_50 => ?_) (fun c_50 => ?_)
  · refine ce_iconst (v := nI (0)) dX8_does_57 (by decide) ?_
    refine ce_istore dX8_does_58 (Nat.le_of_ble_eq_true rfl) rfl ?_
    refine ce_iload_n dX8_does_60 rfl ?_
    refine ce_tableIn (off := 193) (tgt := 254) dX8_does_61 (by decide) (by decide) (by decide) (by decide) ?_
    refine ce_iload dX8_does_254 rfl ?_
    refine ce_i2l (v := (nI (e)).toInt64) dX8_does_256 rfl ?_
    refine ce_lconst (v := 1) dX8_does_257 (by decide) ?_
    refine ce_ldc2 dX8_does_258 kRX8_199 ?_
    refine ce_cSp dX8_does_261 hX8_in kRX8_108 (m_X8_in ((nI (e)).toInt64) (1) (60) ((1 : Int) ≤ ((e : Nat) : Int) ∧ ((e : Nat) : Int) ≤ (60 : Int)) (cr_io ((cr_tl (nI (e))).trans (nI_toInt (by omega))) (by decide) (by decide))) rfl rfl (by decide) (Nat.le_of_ble_eq_true rfl) ?_
    refine ce_if_eqB (tgt := 282) dX8_does_264 (by decide) rfl (fun c_264 => ?_) (fun c_264 => ?_)
    · refine ce_iconst (v := nI (0)) dX8_does_282 (by decide) ?_
      refine ce_iret dX8_does_283 rfl (by first | rfl | decide | (split <;> rfl)) (by decide) (by decide) ?_
      have eFt : kt_f K G = kv_driF K (nI a) (nI b) (nI e) := by unfold kt_f; rw [hq, ha, hb, he]; try rfl
      have eF : ¬ kt_f K G = 0 := fun q0 => by have q1 : a < K 0 0 ∧ b < K 0 1 ∧ 1 ≤ e ∧ e ≤ 60 ∧ e ≤ K 9 (a * 6 + b) := (kv_driI (by omega) (by omega) (by omega)).mp (eFt.symm.trans q0); omega
      rw [show ks_ite (kt_f K G) (kt_K K G) K = K from if_neg eF, show ks_ite (kt_f K G) (kt_O K O G) O = O from if_neg eF]
      exact ⟨_, rfl, rfl, (if_neg eF).symm, hr, fun _ _ _ => rfl⟩
    · refine ce_aload_n dX8_does_267 rfl ?_
      refine ce_getR dX8_does_268 fRX8_19 hD.1 hD.2.1.2.2.2.1 ?_
      refine ce_iload_n dX8_does_271 rfl ?_
      refine ce_iload dX8_does_272 rfl ?_
      refine ce_iload dX8_does_274 rfl ?_
      refine ce_cSp dX8_does_276 hX8_owns kRX8_241 (n_owns ⟨(hD.2.2.2.2.2.1).1, (hD.2.2.2.2.2.1).2⟩ hk hr (a) (b) (e) (by omega) (by omega) (by omega)) rfl rfl (by decide) (Nat.le_of_ble_eq_true rfl) ?_
      refine ce_if_neB (tgt := 284) dX8_does_279 (by decide) rfl (fun c_279 => ?_) (fun c_279 => ?_)
      · refine ce_aload_n dX8_does_284 rfl ?_
        refine ce_getR dX8_does_285 fRX8_19 hD.1 hD.2.1.2.2.2.1 ?_
        refine ce_iload_n dX8_does_288 rfl ?_
        refine ce_iload dX8_does_289 rfl ?_
        refine ce_iload dX8_does_291 rfl ?_
        refine ce_cSu dX8_does_293 hX8_goDrink kRX8_213 (n_goDrink ⟨(hD.2.2.2.2.2.1).1, (hD.2.2.2.2.2.1).2⟩ hk hr (a) (b) (e) (by omega) (by omega) (by omega) (by omega)) rfl rfl (by decide) (Nat.le_of_ble_eq_true rfl) (fun cg1 hcg1 => ?_)
        refine ce_iconst (v := nI (1)) dX8_does_296 (by decide) ?_
        refine ce_iret dX8_does_297 rfl (by first | rfl | decide | (split <;> rfl)) (by decide) (by decide) ?_
        have eFt : kt_f K G = kv_driF K (nI a) (nI b) (nI e) := by unfold kt_f; rw [hq, ha, hb, he]; try rfl
        have eF : kt_f K G = 0 := eFt.trans ((kv_driI (by omega) (by omega) (by omega)).mpr (show a < K 0 0 ∧ b < K 0 1 ∧ 1 ≤ e ∧ e ≤ 60 ∧ e ≤ K 9 (a * 6 + b) by omega))
        have eK : ks_ite (kt_f K G) (kt_K K G) K = kv_dri K a b e := by rw [show ks_ite (kt_f K G) (kt_K K G) K = kt_K K G from if_pos eF]; unfold kt_K; rw [hq, ha, hb, he]; try rfl
        have eO : ks_ite (kt_f K G) (kt_O K O G) O = O := by rw [show ks_ite (kt_f K G) (kt_O K O G) O = kt_O K O G from if_pos eF]; unfold kt_O; rw [hq]; try rfl
        rw [eK, eO]
        exact ⟨_, rfl, rfl, (if_pos eF).symm, hcg1.1, (fun x h4 h8 => hcg1.2 x h4)⟩
      · refine ce_iconst (v := nI (0)) dX8_does_282 (by decide) ?_
        refine ce_iret dX8_does_283 rfl (by first | rfl | decide | (split <;> rfl)) (by decide) (by decide) ?_
        have eFt : kt_f K G = kv_driF K (nI a) (nI b) (nI e) := by unfold kt_f; rw [hq, ha, hb, he]; try rfl
        have eF : ¬ kt_f K G = 0 := fun q0 => by have q1 : a < K 0 0 ∧ b < K 0 1 ∧ 1 ≤ e ∧ e ≤ 60 ∧ e ≤ K 9 (a * 6 + b) := (kv_driI (by omega) (by omega) (by omega)).mp (eFt.symm.trans q0); omega
        rw [show ks_ite (kt_f K G) (kt_K K G) K = K from if_neg eF, show ks_ite (kt_f K G) (kt_O K O G) O = O from if_neg eF]
        exact ⟨_, rfl, rfl, (if_neg eF).symm, hr, fun _ _ _ => rfl⟩
  · refine ce_iconst (v := nI (1)) dX8_does_53 (by decide) ?_
    refine ce_goto (tgt := 58) dX8_does_54 (by decide) ?_
    refine ce_istore dX8_does_58 (Nat.le_of_ble_eq_true rfl) rfl ?_
    refine ce_iload_n dX8_does_60 rfl ?_
    refine ce_tableIn (off := 193) (tgt := 254) dX8_does_61 (by decide) (by decide) (by decide) (by decide) ?_
    refine ce_iload dX8_does_254 rfl ?_
    refine ce_i2l (v := (nI (e)).toInt64) dX8_does_256 rfl ?_
    refine ce_lconst (v := 1) dX8_does_257 (by decide) ?_
    refine ce_ldc2 dX8_does_258 kRX8_199 ?_
    refine ce_cSp dX8_does_261 hX8_in kRX8_108 (m_X8_in ((nI (e)).toInt64) (1) (60) ((1 : Int) ≤ ((e : Nat) : Int) ∧ ((e : Nat) : Int) ≤ (60 : Int)) (cr_io ((cr_tl (nI (e))).trans (nI_toInt (by omega))) (by decide) (by decide))) rfl rfl (by decide) (Nat.le_of_ble_eq_true rfl) ?_
    refine ce_if_eqB (tgt := 282) dX8_does_264 (by decide) rfl (fun c_264 => ?_) (fun c_264 => ?_)
    · refine ce_iconst (v := nI (0)) dX8_does_282 (by decide) ?_
      refine ce_iret dX8_does_283 rfl (by first | rfl | decide | (split <;> rfl)) (by decide) (by decide) ?_
      have eFt : kt_f K G = kv_driF K (nI a) (nI b) (nI e) := by unfold kt_f; rw [hq, ha, hb, he]; try rfl
      have eF : ¬ kt_f K G = 0 := fun q0 => by have q1 : a < K 0 0 ∧ b < K 0 1 ∧ 1 ≤ e ∧ e ≤ 60 ∧ e ≤ K 9 (a * 6 + b) := (kv_driI (by omega) (by omega) (by omega)).mp (eFt.symm.trans q0); omega
      rw [show ks_ite (kt_f K G) (kt_K K G) K = K from if_neg eF, show ks_ite (kt_f K G) (kt_O K O G) O = O from if_neg eF]
      exact ⟨_, rfl, rfl, (if_neg eF).symm, hr, fun _ _ _ => rfl⟩
    · refine ce_aload_n dX8_does_267 rfl ?_
      refine ce_getR dX8_does_268 fRX8_19 hD.1 hD.2.1.2.2.2.1 ?_
      refine ce_iload_n dX8_does_271 rfl ?_
      refine ce_iload dX8_does_272 rfl ?_
      refine ce_iload dX8_does_274 rfl ?_
      refine ce_cSp dX8_does_276 hX8_owns kRX8_241 (n_owns ⟨(hD.2.2.2.2.2.1).1, (hD.2.2.2.2.2.1).2⟩ hk hr (a) (b) (e) (by omega) (by omega) (by omega)) rfl rfl (by decide) (Nat.le_of_ble_eq_true rfl) ?_
      refine ce_if_neB (tgt := 284) dX8_does_279 (by decide) rfl (fun c_279 => ?_) (fun c_279 => ?_)
      · refine ce_aload_n dX8_does_284 rfl ?_
        refine ce_getR dX8_does_285 fRX8_19 hD.1 hD.2.1.2.2.2.1 ?_
        refine ce_iload_n dX8_does_288 rfl ?_
        refine ce_iload dX8_does_289 rfl ?_
        refine ce_iload dX8_does_291 rfl ?_
        refine ce_cSu dX8_does_293 hX8_goDrink kRX8_213 (n_goDrink ⟨(hD.2.2.2.2.2.1).1, (hD.2.2.2.2.2.1).2⟩ hk hr (a) (b) (e) (by omega) (by omega) (by omega) (by omega)) rfl rfl (by decide) (Nat.le_of_ble_eq_true rfl) (fun cg1 hcg1 => ?_)
        refine ce_iconst (v := nI (1)) dX8_does_296 (by decide) ?_
        refine ce_iret dX8_does_297 rfl (by first | rfl | decide | (split <;> rfl)) (by decide) (by decide) ?_
        have eFt : kt_f K G = kv_driF K (nI a) (nI b) (nI e) := by unfold kt_f; rw [hq, ha, hb, he]; try rfl
        have eF : kt_f K G = 0 := eFt.trans ((kv_driI (by omega) (by omega) (by omega)).mpr (show a < K 0 0 ∧ b < K 0 1 ∧ 1 ≤ e ∧ e ≤ 60 ∧ e ≤ K 9 (a * 6 + b) by omega))
        have eK : ks_ite (kt_f K G) (kt_K K G) K = kv_dri K a b e := by rw [show ks_ite (kt_f K G) (kt_K K G) K = kt_K K G from if_pos eF]; unfold kt_K; rw [hq, ha, hb, he]; try rfl
        have eO : ks_ite (kt_f K G) (kt_O K O G) O = O := by rw [show ks_ite (kt_f K G) (kt_O K O G) O = kt_O K O G from if_pos eF]; unfold kt_O; rw [hq]; try rfl
        rw [eK, eO]
        exact ⟨_, rfl, rfl, (if_pos eF).symm, hcg1.1, (fun x h4 h8 => hcg1.2 x h4)⟩
      · refine ce_iconst (v := nI (0)) dX8_does_282 (by decide) ?_
        refine ce_iret dX8_does_283 rfl (by first | rfl | decide | (split <;> rfl)) (by decide) (by decide) ?_
        have eFt : kt_f K G = kv_driF K (nI a) (nI b) (nI e) := by unfold kt_f; rw [hq, ha, hb, he]; try rfl
        have eF : ¬ kt_f K G = 0 := fun q0 => by have q1 : a < K 0 0 ∧ b < K 0 1 ∧ 1 ≤ e ∧ e ≤ 60 ∧ e ≤ K 9 (a * 6 + b) := (kv_driI (by omega) (by omega) (by omega)).mp (eFt.symm.trans q0); omega
        rw [show ks_ite (kt_f K G) (kt_K K G) K = K from if_neg eF, show ks_ite (kt_f K G) (kt_O K O G) O = O from if_neg eF]
        exact ⟨_, rfl, rfl, (if_neg eF).symm, hr, fun _ _ _ => rfl⟩
set_option maxHeartbeats 2000000 in
set_option maxRecDepth 20000 in
theorem m_X8_does5 {σ : ce_S} {g : ce_D} (d : Nat) (K : ce_V) (O : Nat → Int32) (hD : ce_LM σ d) (hr : cr_row (g (d + 4)) (kq K) O) (hk : kv_cl K) (G : Nat) (hG : G < 100000) (hq : G / 10000 = 5) : ce_CT (ce_r 5) mX8_does [.ref (d), .int (nI (G))] σ g (ce_rv σ (fun z9 g1 => z9 = (if kt_f K G = 0 then 1 else 0) ∧ cr_row (g1 (d + 4)) (kq (ks_ite (kt_f K G) (kt_K K G) K)) (ks_ite (kt_f K G) (kt_O K O G) O) ∧ ∀ x, x ≠ d + 4 → x ≠ d + 8 → g1 x = g x)) ce_no := by
  have hB := hk.i7
  have hM := hk.me
  have hW := hk.wi
  have h8 : kq K 0 2 ≤ 8 := by rw [kq_ne (by decide)]; exact hB
  have eEmp : kv_emp (kq K) (kq K 0 2) = kv_emp K (K 0 2) := by rw [kq_emp, kq_ne (a := 0) (by decide)]
  have hst := hk.st
  obtain ⟨a, ha⟩ : ∃ a, G / 1000 % 10 = a := ⟨_, rfl⟩
  obtain ⟨b, hb⟩ : ∃ b, G / 100 % 10 = b := ⟨_, rfl⟩
  obtain ⟨e, he⟩ : ∃ e, G % 100 = e := ⟨_, rfl⟩
  have ha2 : a < 10 := by omega
  have hb2 : b < 10 := by omega
  have he2 : e < 100 := by omega
  have hsa := hst a
  have hsb := hst b
  have hl9 : ∀ m w, m < K 0 0 → w < K 0 1 → K 9 (m * 6 + w) ≤ 60 := fun m w h1 h2 => (hk.le (by omega) (by omega)).2.1
  refine ce_enter (by decide) rfl (Nat.le_of_ble_eq_true rfl) (L := [some (.ref (d)), some (.int (nI (G))), none, none, none, none, none, none, none]) rfl ?_
  refine ce_iload_n dX8_does_0 rfl ?_
  refine ce_sipush (v := nI (10000)) dX8_does_1 (by decide) ?_
  refine ce_idiv (z := nI (5)) dX8_does_4 (nI_ne0 (by omega) (by omega)) ((pk_div (by omega) (by omega) (by omega)).trans (congrArg nI hq)) ?_
  refine ce_istore_n dX8_does_5 (Nat.le_of_ble_eq_true rfl) rfl ?_
  refine ce_iload_n dX8_does_6 rfl ?_
  refine ce_sipush (v := nI (1000)) dX8_does_7 (by decide) ?_
  refine ce_idiv (z := nI ((G) / (1000))) dX8_does_10 (nI_ne0 (by omega) (by omega)) (pk_div (by omega) (by omega) (by omega)) ?_
  refine ce_bipush (v := nI (10)) dX8_does_11 (by decide) ?_
  refine ce_irem (z := nI (a)) dX8_does_13 (nI_ne0 (by omega) (by omega)) ((pk_rem (by omega) (by omega) (by omega)).trans (congrArg nI (ha))) ?_
  refine ce_istore_n dX8_does_14 (Nat.le_of_ble_eq_true rfl) rfl ?_
  refine ce_iload_n dX8_does_15 rfl ?_
  refine ce_bipush (v := nI (100)) dX8_does_16 (by decide) ?_
  refine ce_idiv (z := nI ((G) / (100))) dX8_does_18 (nI_ne0 (by omega) (by omega)) (pk_div (by omega) (by omega) (by omega)) ?_
  refine ce_bipush (v := nI (10)) dX8_does_19 (by decide) ?_
  refine ce_irem (z := nI (b)) dX8_does_21 (nI_ne0 (by omega) (by omega)) ((pk_rem (by omega) (by omega) (by omega)).trans (congrArg nI (hb))) ?_
  refine ce_istore dX8_does_22 (Nat.le_of_ble_eq_true rfl) rfl ?_
  refine ce_iload_n dX8_does_24 rfl ?_
  refine ce_bipush (v := nI (10)) dX8_does_25 (by decide) ?_
  refine ce_idiv (z := nI ((G) / (10))) dX8_does_27 (nI_ne0 (by omega) (by omega)) (pk_div (by omega) (by omega) (by omega)) ?_
  refine ce_bipush (v := nI (10)) dX8_does_28 (by decide) ?_
  refine ce_irem (z := nI (e / 10)) dX8_does_30 (nI_ne0 (by omega) (by omega)) ((pk_rem (by omega) (by omega) (by omega)).trans (congrArg nI (by omega))) ?_
  refine ce_istore dX8_does_31 (Nat.le_of_ble_eq_true rfl) rfl ?_
  refine ce_iload_n dX8_does_33 rfl ?_
  refine ce_bipush (v := nI (10)) dX8_does_34 (by decide) ?_
  refine ce_irem (z := nI (e % 10)) dX8_does_36 (nI_ne0 (by omega) (by omega)) ((pk_rem (by omega) (by omega) (by omega)).trans (congrArg nI (by omega))) ?_
  refine ce_istore dX8_does_37 (Nat.le_of_ble_eq_true rfl) rfl ?_
  refine ce_iload_n dX8_does_39 rfl ?_
  refine ce_bipush (v := nI (100)) dX8_does_40 (by decide) ?_
  refine ce_irem (z := nI (e)) dX8_does_42 (nI_ne0 (by omega) (by omega)) ((pk_rem (by omega) (by omega) (by omega)).trans (congrArg nI (he))) ?_
  refine ce_istore dX8_does_43 (Nat.le_of_ble_eq_true rfl) rfl ?_
  refine ce_iload_n dX8_does_45 rfl ?_
  refine ce_sipush (v := nI (1000)) dX8_does_46 (by decide) ?_
  refine ce_irem (z := nI ((G) % (1000))) dX8_does_49 (nI_ne0 (by omega) (by omega)) (pk_rem (by omega) (by omega) (by omega)) ?_
  refine ce_if_neN (tgt := 57) dX8_does_50 (by decide) rfl (by omega) (fun c_50 => ?_) (fun c_50 => ?_)
  · refine ce_iconst (v := nI (0)) dX8_does_57 (by decide) ?_
    refine ce_istore dX8_does_58 (Nat.le_of_ble_eq_true rfl) rfl ?_
    refine ce_iload_n dX8_does_60 rfl ?_
    refine ce_tableIn (off := 237) (tgt := 298) dX8_does_61 (by decide) (by decide) (by decide) (by decide) ?_
    refine ce_iload_n dX8_does_298 rfl ?_
    refine ce_iload dX8_does_299 rfl ?_
    refine ce_icmp_eqN (tgt := 335) dX8_does_301 (by decide) rfl rfl (by omega) (by omega) (fun c_301 => ?_) (fun c_301 => ?_)
    · refine ce_iconst (v := nI (0)) dX8_does_335 (by decide) ?_
      refine ce_iret dX8_does_336 rfl (by first | rfl | decide | (split <;> rfl)) (by decide) (by decide) ?_
      have eFt : kt_f K G = kv_gifF K (nI a) (nI b) (nI (e / 10)) (nI (e % 10)) := by unfold kt_f; rw [hq, ha, hb, he]; try rfl
      have eF : ¬ kt_f K G = 0 := fun q0 => by have q1 : a < K 0 0 ∧ b < K 0 0 ∧ e / 10 < K 0 1 ∧ a ≠ b ∧ 1 ≤ e % 10 ∧ e % 10 ≤ 60 ∧ e % 10 ≤ K 9 (a * 6 + e / 10) := (kv_gifI (by omega) (by omega) (by omega) (by omega)).mp (eFt.symm.trans q0); omega
      rw [show ks_ite (kt_f K G) (kt_K K G) K = K from if_neg eF, show ks_ite (kt_f K G) (kt_O K O G) O = O from if_neg eF]
      exact ⟨_, rfl, rfl, (if_neg eF).symm, hr, fun _ _ _ => rfl⟩
    · refine ce_iload dX8_does_304 rfl ?_
      refine ce_aload_n dX8_does_306 rfl ?_
      refine ce_getR dX8_does_307 fRX8_19 hD.1 hD.2.1.2.2.2.1 ?_
      refine ce_iconst (v := nI (0)) dX8_does_310 (by decide) ?_
      refine ce_ialdv dX8_does_311 (hD.2.2.2.2.2.1).1 rfl (hD.2.2.2.2.2.1).2 (by omega) (by decide) (((hr).c0).trans (congrArg nI (by rw [kq_ne (by decide)]))) ?_
      refine ce_icmp_geN (tgt := 335) dX8_does_312 (by decide) rfl rfl (by omega) (by omega) (fun c_312 => ?_) (fun c_312 => ?_)
      · refine ce_iconst (v := nI (0)) dX8_does_335 (by decide) ?_
        refine ce_iret dX8_does_336 rfl (by first | rfl | decide | (split <;> rfl)) (by decide) (by decide) ?_
        have eFt : kt_f K G = kv_gifF K (nI a) (nI b) (nI (e / 10)) (nI (e % 10)) := by unfold kt_f; rw [hq, ha, hb, he]; try rfl
        have eF : ¬ kt_f K G = 0 := fun q0 => by have q1 : a < K 0 0 ∧ b < K 0 0 ∧ e / 10 < K 0 1 ∧ a ≠ b ∧ 1 ≤ e % 10 ∧ e % 10 ≤ 60 ∧ e % 10 ≤ K 9 (a * 6 + e / 10) := (kv_gifI (by omega) (by omega) (by omega) (by omega)).mp (eFt.symm.trans q0); omega
        rw [show ks_ite (kt_f K G) (kt_K K G) K = K from if_neg eF, show ks_ite (kt_f K G) (kt_O K O G) O = O from if_neg eF]
        exact ⟨_, rfl, rfl, (if_neg eF).symm, hr, fun _ _ _ => rfl⟩
      · refine ce_iload dX8_does_315 rfl ?_
        refine ce_if_eqN (tgt := 335) dX8_does_317 (by decide) rfl (by omega) (fun c_317 => ?_) (fun c_317 => ?_)
        · refine ce_iconst (v := nI (0)) dX8_does_335 (by decide) ?_
          refine ce_iret dX8_does_336 rfl (by first | rfl | decide | (split <;> rfl)) (by decide) (by decide) ?_
          have eFt : kt_f K G = kv_gifF K (nI a) (nI b) (nI (e / 10)) (nI (e % 10)) := by unfold kt_f; rw [hq, ha, hb, he]; try rfl
          have eF : ¬ kt_f K G = 0 := fun q0 => by have q1 : a < K 0 0 ∧ b < K 0 0 ∧ e / 10 < K 0 1 ∧ a ≠ b ∧ 1 ≤ e % 10 ∧ e % 10 ≤ 60 ∧ e % 10 ≤ K 9 (a * 6 + e / 10) := (kv_gifI (by omega) (by omega) (by omega) (by omega)).mp (eFt.symm.trans q0); omega
          rw [show ks_ite (kt_f K G) (kt_K K G) K = K from if_neg eF, show ks_ite (kt_f K G) (kt_O K O G) O = O from if_neg eF]
          exact ⟨_, rfl, rfl, (if_neg eF).symm, hr, fun _ _ _ => rfl⟩
        · refine ce_aload_n dX8_does_320 rfl ?_
          refine ce_getR dX8_does_321 fRX8_19 hD.1 hD.2.1.2.2.2.1 ?_
          refine ce_iload_n dX8_does_324 rfl ?_
          refine ce_iload dX8_does_325 rfl ?_
          refine ce_iload dX8_does_327 rfl ?_
          refine ce_cSp dX8_does_329 hX8_owns kRX8_241 (n_owns ⟨(hD.2.2.2.2.2.1).1, (hD.2.2.2.2.2.1).2⟩ hk hr (a) (e / 10) (e % 10) (by omega) (by omega) (by omega)) rfl rfl (by decide) (Nat.le_of_ble_eq_true rfl) ?_
          refine ce_if_neB (tgt := 337) dX8_does_332 (by decide) rfl (fun c_332 => ?_) (fun c_332 => ?_)
          · refine ce_aload_n dX8_does_337 rfl ?_
            refine ce_getR dX8_does_338 fRX8_19 hD.1 hD.2.1.2.2.2.1 ?_
            refine ce_iload_n dX8_does_341 rfl ?_
            refine ce_iload dX8_does_342 rfl ?_
            refine ce_iload dX8_does_344 rfl ?_
            refine ce_iload dX8_does_346 rfl ?_
            refine ce_cSu dX8_does_348 hX8_goGive kRX8_217 (n_goGive ⟨(hD.2.2.2.2.2.1).1, (hD.2.2.2.2.2.1).2⟩ hr (a) (b) (e / 10) (e % 10) (by omega) (by omega) (by omega) (by omega) (by omega)) rfl rfl (by decide) (Nat.le_of_ble_eq_true rfl) (fun cg1 hcg1 => ?_)
            refine ce_iconst (v := nI (1)) dX8_does_351 (by decide) ?_
            refine ce_iret dX8_does_352 rfl (by first | rfl | decide | (split <;> rfl)) (by decide) (by decide) ?_
            have eFt : kt_f K G = kv_gifF K (nI a) (nI b) (nI (e / 10)) (nI (e % 10)) := by unfold kt_f; rw [hq, ha, hb, he]; try rfl
            have eF : kt_f K G = 0 := eFt.trans ((kv_gifI (by omega) (by omega) (by omega) (by omega)).mpr (show a < K 0 0 ∧ b < K 0 0 ∧ e / 10 < K 0 1 ∧ a ≠ b ∧ 1 ≤ e % 10 ∧ e % 10 ≤ 60 ∧ e % 10 ≤ K 9 (a * 6 + e / 10) by omega))
            have eK : ks_ite (kt_f K G) (kt_K K G) K = kv_han K a b (e / 10) (e % 10) := by rw [show ks_ite (kt_f K G) (kt_K K G) K = kt_K K G from if_pos eF]; unfold kt_K; rw [hq, ha, hb, he]; try rfl
            have eO : ks_ite (kt_f K G) (kt_O K O G) O = O := by rw [show ks_ite (kt_f K G) (kt_O K O G) O = kt_O K O G from if_pos eF]; unfold kt_O; rw [hq]; try rfl
            rw [eK, eO]
            exact ⟨_, rfl, rfl, (if_pos eF).symm, hcg1.1, (fun x h4 h8 => hcg1.2 x h4)⟩
          · refine ce_iconst (v := nI (0)) dX8_does_335 (by decide) ?_
            refine ce_iret dX8_does_336 rfl (by first | rfl | decide | (split <;> rfl)) (by decide) (by decide) ?_
            have eFt : kt_f K G = kv_gifF K (nI a) (nI b) (nI (e / 10)) (nI (e % 10)) := by unfold kt_f; rw [hq, ha, hb, he]; try rfl
            have eF : ¬ kt_f K G = 0 := fun q0 => by have q1 : a < K 0 0 ∧ b < K 0 0 ∧ e / 10 < K 0 1 ∧ a ≠ b ∧ 1 ≤ e % 10 ∧ e % 10 ≤ 60 ∧ e % 10 ≤ K 9 (a * 6 + e / 10) := (kv_gifI (by omega) (by omega) (by omega) (by omega)).mp (eFt.symm.trans q0); omega
            rw [show ks_ite (kt_f K G) (kt_K K G) K = K from if_neg eF, show ks_ite (kt_f K G) (kt_O K O G) O = O from if_neg eF]
            exact ⟨_, rfl, rfl, (if_neg eF).symm, hr, fun _ _ _ => rfl⟩
  · refine ce_iconst (v := nI (1)) dX8_does_53 (by decide) ?_
    refine ce_goto (tgt := 58) dX8_does_54 (by decide) ?_
    refine ce_istore dX8_does_58 (Nat.le_of_ble_eq_true rfl) rfl ?_
    refine ce_iload_n dX8_does_60 rfl ?_
    refine ce_tableIn (off := 237) (tgt := 298) dX8_does_61 (by decide) (by decide) (by decide) (by decide) ?_
    refine ce_iload_n dX8_does_298 rfl ?_
    refine ce_iload dX8_does_299 rfl ?_
    refine ce_icmp_eqN (tgt := 335) dX8_does_301 (by decide) rfl rfl (by omega) (by omega) (fun c_301 => ?_) (fun c_301 => ?_)
    · refine ce_iconst (v := nI (0)) dX8_does_335 (by decide) ?_
      refine ce_iret dX8_does_336 rfl (by first | rfl | decide | (split <;> rfl)) (by decide) (by decide) ?_
      have eFt : kt_f K G = kv_gifF K (nI a) (nI b) (nI (e / 10)) (nI (e % 10)) := by unfold kt_f; rw [hq, ha, hb, he]; try rfl
      have eF : ¬ kt_f K G = 0 := fun q0 => by have q1 : a < K 0 0 ∧ b < K 0 0 ∧ e / 10 < K 0 1 ∧ a ≠ b ∧ 1 ≤ e % 10 ∧ e % 10 ≤ 60 ∧ e % 10 ≤ K 9 (a * 6 + e / 10) := (kv_gifI (by omega) (by omega) (by omega) (by omega)).mp (eFt.symm.trans q0); omega
      rw [show ks_ite (kt_f K G) (kt_K K G) K = K from if_neg eF, show ks_ite (kt_f K G) (kt_O K O G) O = O from if_neg eF]
      exact ⟨_, rfl, rfl, (if_neg eF).symm, hr, fun _ _ _ => rfl⟩
    · refine ce_iload dX8_does_304 rfl ?_
      refine ce_aload_n dX8_does_306 rfl ?_
      refine ce_getR dX8_does_307 fRX8_19 hD.1 hD.2.1.2.2.2.1 ?_
      refine ce_iconst (v := nI (0)) dX8_does_310 (by decide) ?_
      refine ce_ialdv dX8_does_311 (hD.2.2.2.2.2.1).1 rfl (hD.2.2.2.2.2.1).2 (by omega) (by decide) (((hr).c0).trans (congrArg nI (by rw [kq_ne (by decide)]))) ?_
      refine ce_icmp_geN (tgt := 335) dX8_does_312 (by decide) rfl rfl (by omega) (by omega) (fun c_312 => ?_) (fun c_312 => ?_)
      · refine ce_iconst (v := nI (0)) dX8_does_335 (by decide) ?_
        refine ce_iret dX8_does_336 rfl (by first | rfl | decide | (split <;> rfl)) (by decide) (by decide) ?_
        have eFt : kt_f K G = kv_gifF K (nI a) (nI b) (nI (e / 10)) (nI (e % 10)) := by unfold kt_f; rw [hq, ha, hb, he]; try rfl
        have eF : ¬ kt_f K G = 0 := fun q0 => by have q1 : a < K 0 0 ∧ b < K 0 0 ∧ e / 10 < K 0 1 ∧ a ≠ b ∧ 1 ≤ e % 10 ∧ e % 10 ≤ 60 ∧ e % 10 ≤ K 9 (a * 6 + e / 10) := (kv_gifI (by omega) (by omega) (by omega) (by omega)).mp (eFt.symm.trans q0); omega
        rw [show ks_ite (kt_f K G) (kt_K K G) K = K from if_neg eF, show ks_ite (kt_f K G) (kt_O K O G) O = O from if_neg eF]
        exact ⟨_, rfl, rfl, (if_neg eF).symm, hr, fun _ _ _ => rfl⟩
      · refine ce_iload dX8_does_315 rfl ?_
        refine ce_if_eqN (tgt := 335) dX8_does_317 (by decide) rfl (by omega) (fun c_317 => ?_) (fun c_317 => ?_)
        · refine ce_iconst (v := nI (0)) dX8_does_335 (by decide) ?_
          refine ce_iret dX8_does_336 rfl (by first | rfl | decide | (split <;> rfl)) (by decide) (by decide) ?_
          have eFt : kt_f K G = kv_gifF K (nI a) (nI b) (nI (e / 10)) (nI (e % 10)) := by unfold kt_f; rw [hq, ha, hb, he]; try rfl
          have eF : ¬ kt_f K G = 0 := fun q0 => by have q1 : a < K 0 0 ∧ b < K 0 0 ∧ e / 10 < K 0 1 ∧ a ≠ b ∧ 1 ≤ e % 10 ∧ e % 10 ≤ 60 ∧ e % 10 ≤ K 9 (a * 6 + e / 10) := (kv_gifI (by omega) (by omega) (by omega) (by omega)).mp (eFt.symm.trans q0); omega
          rw [show ks_ite (kt_f K G) (kt_K K G) K = K from if_neg eF, show ks_ite (kt_f K G) (kt_O K O G) O = O from if_neg eF]
          exact ⟨_, rfl, rfl, (if_neg eF).symm, hr, fun _ _ _ => rfl⟩
        · refine ce_aload_n dX8_does_320 rfl ?_
          refine ce_getR dX8_does_321 fRX8_19 hD.1 hD.2.1.2.2.2.1 ?_
          refine ce_iload_n dX8_does_324 rfl ?_
          refine ce_iload dX8_does_325 rfl ?_
          refine ce_iload dX8_does_327 rfl ?_
          refine ce_cSp dX8_does_329 hX8_owns kRX8_241 (n_owns ⟨(hD.2.2.2.2.2.1).1, (hD.2.2.2.2.2.1).2⟩ hk hr (a) (e / 10) (e % 10) (by omega) (by omega) (by omega)) rfl rfl (by decide) (Nat.le_of_ble_eq_true rfl) ?_
          refine ce_if_neB (tgt := 337) dX8_does_332 (by decide) rfl (fun c_332 => ?_) (fun c_332 => ?_)
          · refine ce_aload_n dX8_does_337 rfl ?_
            refine ce_getR dX8_does_338 fRX8_19 hD.1 hD.2.1.2.2.2.1 ?_
            refine ce_iload_n dX8_does_341 rfl ?_
            refine ce_iload dX8_does_342 rfl ?_
            refine ce_iload dX8_does_344 rfl ?_
            refine ce_iload dX8_does_346 rfl ?_
            refine ce_cSu dX8_does_348 hX8_goGive kRX8_217 (n_goGive ⟨(hD.2.2.2.2.2.1).1, (hD.2.2.2.2.2.1).2⟩ hr (a) (b) (e / 10) (e % 10) (by omega) (by omega) (by omega) (by omega) (by omega)) rfl rfl (by decide) (Nat.le_of_ble_eq_true rfl) (fun cg1 hcg1 => ?_)
            refine ce_iconst (v := nI (1)) dX8_does_351 (by decide) ?_
            refine ce_iret dX8_does_352 rfl (by first | rfl | decide | (split <;> rfl)) (by decide) (by decide) ?_
            have eFt : kt_f K G = kv_gifF K (nI a) (nI b) (nI (e / 10)) (nI (e % 10)) := by unfold kt_f; rw [hq, ha, hb, he]; try rfl
            have eF : kt_f K G = 0 := eFt.trans ((kv_gifI (by omega) (by omega) (by omega) (by omega)).mpr (show a < K 0 0 ∧ b < K 0 0 ∧ e / 10 < K 0 1 ∧ a ≠ b ∧ 1 ≤ e % 10 ∧ e % 10 ≤ 60 ∧ e % 10 ≤ K 9 (a * 6 + e / 10) by omega))
            have eK : ks_ite (kt_f K G) (kt_K K G) K = kv_han K a b (e / 10) (e % 10) := by rw [show ks_ite (kt_f K G) (kt_K K G) K = kt_K K G from if_pos eF]; unfold kt_K; rw [hq, ha, hb, he]; try rfl
            have eO : ks_ite (kt_f K G) (kt_O K O G) O = O := by rw [show ks_ite (kt_f K G) (kt_O K O G) O = kt_O K O G from if_pos eF]; unfold kt_O; rw [hq]; try rfl
            rw [eK, eO]
            exact ⟨_, rfl, rfl, (if_pos eF).symm, hcg1.1, (fun x h4 h8 => hcg1.2 x h4)⟩
          · refine ce_iconst (v := nI (0)) dX8_does_335 (by decide) ?_
            refine ce_iret dX8_does_336 rfl (by first | rfl | decide | (split <;> rfl)) (by decide) (by decide) ?_
            have eFt : kt_f K G = kv_gifF K (nI a) (nI b) (nI (e / 10)) (nI (e % 10)) := by unfold kt_f; rw [hq, ha, hb, he]; try rfl
            have eF : ¬ kt_f K G = 0 := fun q0 => by have q1 : a < K 0 0 ∧ b < K 0 0 ∧ e / 10 < K 0 1 ∧ a ≠ b ∧ 1 ≤ e % 10 ∧ e % 10 ≤ 60 ∧ e % 10 ≤ K 9 (a * 6 + e / 10) := (kv_gifI (by omega) (by omega) (by omega) (by omega)).mp (eFt.symm.trans q0); omega
            rw [show ks_ite (kt_f K G) (kt_K K G) K = K from if_neg eF, show ks_ite (kt_f K G) (kt_O K O G) O = O from if_neg eF]
            exact ⟨_, rfl, rfl, (if_neg eF).symm, hr, fun _ _ _ => rfl⟩
set_option maxHeartbeats 2000000 in
set_option maxRecDepth 20000 in
theorem m_X8_does6 {σ : ce_S} {g : ce_D} (d : Nat) (K : ce_V) (O : Nat → Int32) (hD : ce_LM σ d) (hr : cr_row (g (d + 4)) (kq K) O) (hk : kv_cl K) (G : Nat) (hG : G < 100000) (hq : G / 10000 = 6) : ce_CT (ce_r 5) mX8_does [.ref (d), .int (nI (G))] σ g (ce_rv σ (fun z9 g1 => z9 = (if kt_f K G = 0 then 1 else 0) ∧ cr_row (g1 (d + 4)) (kq (ks_ite (kt_f K G) (kt_K K G) K)) (ks_ite (kt_f K G) (kt_O K O G) O) ∧ ∀ x, x ≠ d + 4 → x ≠ d + 8 → g1 x = g x)) ce_no := by
  have hB := hk.i7
  have hM := hk.me
  have hW := hk.wi
  have h8 : kq K 0 2 ≤ 8 := by rw [kq_ne (by decide)]; exact hB
  have eEmp : kv_emp (kq K) (kq K 0 2) = kv_emp K (K 0 2) := by rw [kq_emp, kq_ne (a := 0) (by decide)]
  have hst := hk.st
  obtain ⟨a, ha⟩ : ∃ a, G / 1000 % 10 = a := ⟨_, rfl⟩
  obtain ⟨b, hb⟩ : ∃ b, G / 100 % 10 = b := ⟨_, rfl⟩
  obtain ⟨e, he⟩ : ∃ e, G % 100 = e := ⟨_, rfl⟩
  have ha2 : a < 10 := by omega
  have hb2 : b < 10 := by omega
  have he2 : e < 100 := by omega
  have hsa := hst a
  have hsb := hst b
  have hl9 : ∀ m w, m < K 0 0 → w < K 0 1 → K 9 (m * 6 + w) ≤ 60 := fun m w h1 h2 => (hk.le (by omega) (by omega)).2.1
  refine ce_enter (by decide) rfl (Nat.le_of_ble_eq_true rfl) (L := [some (.ref (d)), some (.int (nI (G))), none, none, none, none, none, none, none]) rfl ?_
  refine ce_iload_n dX8_does_0 rfl ?_
  refine ce_sipush (v := nI (10000)) dX8_does_1 (by decide) ?_
  refine ce_idiv (z := nI (6)) dX8_does_4 (nI_ne0 (by omega) (by omega)) ((pk_div (by omega) (by omega) (by omega)).trans (congrArg nI hq)) ?_
  refine ce_istore_n dX8_does_5 (Nat.le_of_ble_eq_true rfl) rfl ?_
  refine ce_iload_n dX8_does_6 rfl ?_
  refine ce_sipush (v := nI (1000)) dX8_does_7 (by decide) ?_
  refine ce_idiv (z := nI ((G) / (1000))) dX8_does_10 (nI_ne0 (by omega) (by omega)) (pk_div (by omega) (by omega) (by omega)) ?_
  refine ce_bipush (v := nI (10)) dX8_does_11 (by decide) ?_
  refine ce_irem (z := nI (a)) dX8_does_13 (nI_ne0 (by omega) (by omega)) ((pk_rem (by omega) (by omega) (by omega)).trans (congrArg nI (ha))) ?_
  refine ce_istore_n dX8_does_14 (Nat.le_of_ble_eq_true rfl) rfl ?_
  refine ce_iload_n dX8_does_15 rfl ?_
  refine ce_bipush (v := nI (100)) dX8_does_16 (by decide) ?_
  refine ce_idiv (z := nI ((G) / (100))) dX8_does_18 (nI_ne0 (by omega) (by omega)) (pk_div (by omega) (by omega) (by omega)) ?_
  refine ce_bipush (v := nI (10)) dX8_does_19 (by decide) ?_
  refine ce_irem (z := nI (b)) dX8_does_21 (nI_ne0 (by omega) (by omega)) ((pk_rem (by omega) (by omega) (by omega)).trans (congrArg nI (hb))) ?_
  refine ce_istore dX8_does_22 (Nat.le_of_ble_eq_true rfl) rfl ?_
  refine ce_iload_n dX8_does_24 rfl ?_
  refine ce_bipush (v := nI (10)) dX8_does_25 (by decide) ?_
  refine ce_idiv (z := nI ((G) / (10))) dX8_does_27 (nI_ne0 (by omega) (by omega)) (pk_div (by omega) (by omega) (by omega)) ?_
  refine ce_bipush (v := nI (10)) dX8_does_28 (by decide) ?_
  refine ce_irem (z := nI (e / 10)) dX8_does_30 (nI_ne0 (by omega) (by omega)) ((pk_rem (by omega) (by omega) (by omega)).trans (congrArg nI (by omega))) ?_
  refine ce_istore dX8_does_31 (Nat.le_of_ble_eq_true rfl) rfl ?_
  refine ce_iload_n dX8_does_33 rfl ?_
  refine ce_bipush (v := nI (10)) dX8_does_34 (by decide) ?_
  refine ce_irem (z := nI (e % 10)) dX8_does_36 (nI_ne0 (by omega) (by omega)) ((pk_rem (by omega) (by omega) (by omega)).trans (congrArg nI (by omega))) ?_
  refine ce_istore dX8_does_37 (Nat.le_of_ble_eq_true rfl) rfl ?_
  refine ce_iload_n dX8_does_39 rfl ?_
  refine ce_bipush (v := nI (100)) dX8_does_40 (by decide) ?_
  refine ce_irem (z := nI (e)) dX8_does_42 (nI_ne0 (by omega) (by omega)) ((pk_rem (by omega) (by omega) (by omega)).trans (congrArg nI (he))) ?_
  refine ce_istore dX8_does_43 (Nat.le_of_ble_eq_true rfl) rfl ?_
  refine ce_iload_n dX8_does_45 rfl ?_
  refine ce_sipush (v := nI (1000)) dX8_does_46 (by decide) ?_
  refine ce_irem (z := nI ((G) % (1000))) dX8_does_49 (nI_ne0 (by omega) (by omega)) (pk_rem (by omega) (by omega) (by omega)) ?_
  refine ce_if_neN (tgt := 57) dX8_does_50 (by decide) rfl (by omega) (fun c_50 => ?_) (fun c_50 => ?_)
  · refine ce_iconst (v := nI (0)) dX8_does_57 (by decide) ?_
    refine ce_istore dX8_does_58 (Nat.le_of_ble_eq_true rfl) rfl ?_
    refine ce_iload_n dX8_does_60 rfl ?_
    refine ce_tableIn (off := 292) (tgt := 353) dX8_does_61 (by decide) (by decide) (by decide) (by decide) ?_
    refine ce_iload dX8_does_353 rfl ?_
    refine ce_if_neN (tgt := 372) dX8_does_355 (by decide) rfl (by omega) (fun c_355 => ?_) (fun c_355 => ?_)
    · refine ce_iconst (v := nI (0)) dX8_does_372 (by decide) ?_
      refine ce_iret dX8_does_373 rfl (by first | rfl | decide | (split <;> rfl)) (by decide) (by decide) ?_
      have eFt : kt_f K G = (if e = 0 then kv_corF K (nI a) (nI b) else 9) := by unfold kt_f; rw [hq, ha, hb, he]; try rfl
      have eF : ¬ kt_f K G = 0 := fun q0 => by
        rw [eFt] at q0
        by_cases q2 : e = 0
        · rw [if_pos q2] at q0; have q1 : a < K 0 0 ∧ b < K 0 1 ∧ 0 < K 9 (a * 6 + b) := (kv_corI (by omega) (by omega)).mp q0; omega
        · rw [if_neg q2] at q0; omega
      rw [show ks_ite (kt_f K G) (kt_K K G) K = K from if_neg eF, show ks_ite (kt_f K G) (kt_O K O G) O = O from if_neg eF]
      exact ⟨_, rfl, rfl, (if_neg eF).symm, hr, fun _ _ _ => rfl⟩
    · refine ce_aload_n dX8_does_358 rfl ?_
      refine ce_getR dX8_does_359 fRX8_19 hD.1 hD.2.1.2.2.2.1 ?_
      refine ce_iload_n dX8_does_362 rfl ?_
      refine ce_iload dX8_does_363 rfl ?_
      refine ce_iconst (v := nI (1)) dX8_does_365 (by decide) ?_
      refine ce_cSp dX8_does_366 hX8_owns kRX8_241 (n_owns ⟨(hD.2.2.2.2.2.1).1, (hD.2.2.2.2.2.1).2⟩ hk hr (a) (b) (1) (by omega) (by omega) (by omega)) rfl rfl (by decide) (Nat.le_of_ble_eq_true rfl) ?_
      refine ce_if_neB (tgt := 374) dX8_does_369 (by decide) rfl (fun c_369 => ?_) (fun c_369 => ?_)
      · refine ce_aload_n dX8_does_374 rfl ?_
        refine ce_getR dX8_does_375 fRX8_19 hD.1 hD.2.1.2.2.2.1 ?_
        refine ce_iload_n dX8_does_378 rfl ?_
        refine ce_iload dX8_does_379 rfl ?_
        refine ce_cSr dX8_does_381 hX8_goCork kRX8_221 (n_goCork ⟨(hD.2.2.2.2.2.1).1, (hD.2.2.2.2.2.1).2⟩ hk hr (a) (b) (by omega) (by omega) (by omega)) rfl rfl (by decide) (Nat.le_of_ble_eq_true rfl) (fun rcg1 cg1 hcg1 => ?_)
        refine ce_pop dX8_does_384 rfl ?_
        refine ce_iconst (v := nI (1)) dX8_does_385 (by decide) ?_
        refine ce_iret dX8_does_386 rfl (by first | rfl | decide | (split <;> rfl)) (by decide) (by decide) ?_
        have eFt : kt_f K G = (if e = 0 then kv_corF K (nI a) (nI b) else 9) := by unfold kt_f; rw [hq, ha, hb, he]; try rfl
        have eF : kt_f K G = 0 := (eFt.trans (if_pos (by omega))).trans ((kv_corI (by omega) (by omega)).mpr (show a < K 0 0 ∧ b < K 0 1 ∧ 0 < K 9 (a * 6 + b) by omega))
        have eK : ks_ite (kt_f K G) (kt_K K G) K = kv_cor K a b := by rw [show ks_ite (kt_f K G) (kt_K K G) K = kt_K K G from if_pos eF]; unfold kt_K; rw [hq, ha, hb]; try rfl
        have eO : ks_ite (kt_f K G) (kt_O K O G) O = ko_cor K a b O := by rw [show ks_ite (kt_f K G) (kt_O K O G) O = kt_O K O G from if_pos eF]; unfold kt_O; rw [hq, ha, hb]; try rfl
        rw [eK, eO]
        exact ⟨_, rfl, rfl, (if_pos eF).symm, hcg1.2.1, (fun x h4 h8 => hcg1.2.2 x h4)⟩
      · refine ce_iconst (v := nI (0)) dX8_does_372 (by decide) ?_
        refine ce_iret dX8_does_373 rfl (by first | rfl | decide | (split <;> rfl)) (by decide) (by decide) ?_
        have eFt : kt_f K G = (if e = 0 then kv_corF K (nI a) (nI b) else 9) := by unfold kt_f; rw [hq, ha, hb, he]; try rfl
        have eF : ¬ kt_f K G = 0 := fun q0 => by
          rw [eFt] at q0
          by_cases q2 : e = 0
          · rw [if_pos q2] at q0; have q1 : a < K 0 0 ∧ b < K 0 1 ∧ 0 < K 9 (a * 6 + b) := (kv_corI (by omega) (by omega)).mp q0; omega
          · rw [if_neg q2] at q0; omega
        rw [show ks_ite (kt_f K G) (kt_K K G) K = K from if_neg eF, show ks_ite (kt_f K G) (kt_O K O G) O = O from if_neg eF]
        exact ⟨_, rfl, rfl, (if_neg eF).symm, hr, fun _ _ _ => rfl⟩
  · refine ce_iconst (v := nI (1)) dX8_does_53 (by decide) ?_
    refine ce_goto (tgt := 58) dX8_does_54 (by decide) ?_
    refine ce_istore dX8_does_58 (Nat.le_of_ble_eq_true rfl) rfl ?_
    refine ce_iload_n dX8_does_60 rfl ?_
    refine ce_tableIn (off := 292) (tgt := 353) dX8_does_61 (by decide) (by decide) (by decide) (by decide) ?_
    refine ce_iload dX8_does_353 rfl ?_
    refine ce_if_neN (tgt := 372) dX8_does_355 (by decide) rfl (by omega) (fun c_355 => ?_) (fun c_355 => ?_)
    · refine ce_iconst (v := nI (0)) dX8_does_372 (by decide) ?_
      refine ce_iret dX8_does_373 rfl (by first | rfl | decide | (split <;> rfl)) (by decide) (by decide) ?_
      have eFt : kt_f K G = (if e = 0 then kv_corF K (nI a) (nI b) else 9) := by unfold kt_f; rw [hq, ha, hb, he]; try rfl
      have eF : ¬ kt_f K G = 0 := fun q0 => by
        rw [eFt] at q0
        by_cases q2 : e = 0
        · rw [if_pos q2] at q0; have q1 : a < K 0 0 ∧ b < K 0 1 ∧ 0 < K 9 (a * 6 + b) := (kv_corI (by omega) (by omega)).mp q0; omega
        · rw [if_neg q2] at q0; omega
      rw [show ks_ite (kt_f K G) (kt_K K G) K = K from if_neg eF, show ks_ite (kt_f K G) (kt_O K O G) O = O from if_neg eF]
      exact ⟨_, rfl, rfl, (if_neg eF).symm, hr, fun _ _ _ => rfl⟩
    · refine ce_aload_n dX8_does_358 rfl ?_
      refine ce_getR dX8_does_359 fRX8_19 hD.1 hD.2.1.2.2.2.1 ?_
      refine ce_iload_n dX8_does_362 rfl ?_
      refine ce_iload dX8_does_363 rfl ?_
      refine ce_iconst (v := nI (1)) dX8_does_365 (by decide) ?_
      refine ce_cSp dX8_does_366 hX8_owns kRX8_241 (n_owns ⟨(hD.2.2.2.2.2.1).1, (hD.2.2.2.2.2.1).2⟩ hk hr (a) (b) (1) (by omega) (by omega) (by omega)) rfl rfl (by decide) (Nat.le_of_ble_eq_true rfl) ?_
      refine ce_if_neB (tgt := 374) dX8_does_369 (by decide) rfl (fun c_369 => ?_) (fun c_369 => ?_)
      · refine ce_aload_n dX8_does_374 rfl ?_
        refine ce_getR dX8_does_375 fRX8_19 hD.1 hD.2.1.2.2.2.1 ?_
        refine ce_iload_n dX8_does_378 rfl ?_
        refine ce_iload dX8_does_379 rfl ?_
        refine ce_cSr dX8_does_381 hX8_goCork kRX8_221 (n_goCork ⟨(hD.2.2.2.2.2.1).1, (hD.2.2.2.2.2.1).2⟩ hk hr (a) (b) (by omega) (by omega) (by omega)) rfl rfl (by decide) (Nat.le_of_ble_eq_true rfl) (fun rcg1 cg1 hcg1 => ?_)
        refine ce_pop dX8_does_384 rfl ?_
        refine ce_iconst (v := nI (1)) dX8_does_385 (by decide) ?_
        refine ce_iret dX8_does_386 rfl (by first | rfl | decide | (split <;> rfl)) (by decide) (by decide) ?_
        have eFt : kt_f K G = (if e = 0 then kv_corF K (nI a) (nI b) else 9) := by unfold kt_f; rw [hq, ha, hb, he]; try rfl
        have eF : kt_f K G = 0 := (eFt.trans (if_pos (by omega))).trans ((kv_corI (by omega) (by omega)).mpr (show a < K 0 0 ∧ b < K 0 1 ∧ 0 < K 9 (a * 6 + b) by omega))
        have eK : ks_ite (kt_f K G) (kt_K K G) K = kv_cor K a b := by rw [show ks_ite (kt_f K G) (kt_K K G) K = kt_K K G from if_pos eF]; unfold kt_K; rw [hq, ha, hb]; try rfl
        have eO : ks_ite (kt_f K G) (kt_O K O G) O = ko_cor K a b O := by rw [show ks_ite (kt_f K G) (kt_O K O G) O = kt_O K O G from if_pos eF]; unfold kt_O; rw [hq, ha, hb]; try rfl
        rw [eK, eO]
        exact ⟨_, rfl, rfl, (if_pos eF).symm, hcg1.2.1, (fun x h4 h8 => hcg1.2.2 x h4)⟩
      · refine ce_iconst (v := nI (0)) dX8_does_372 (by decide) ?_
        refine ce_iret dX8_does_373 rfl (by first | rfl | decide | (split <;> rfl)) (by decide) (by decide) ?_
        have eFt : kt_f K G = (if e = 0 then kv_corF K (nI a) (nI b) else 9) := by unfold kt_f; rw [hq, ha, hb, he]; try rfl
        have eF : ¬ kt_f K G = 0 := fun q0 => by
          rw [eFt] at q0
          by_cases q2 : e = 0
          · rw [if_pos q2] at q0; have q1 : a < K 0 0 ∧ b < K 0 1 ∧ 0 < K 9 (a * 6 + b) := (kv_corI (by omega) (by omega)).mp q0; omega
          · rw [if_neg q2] at q0; omega
        rw [show ks_ite (kt_f K G) (kt_K K G) K = K from if_neg eF, show ks_ite (kt_f K G) (kt_O K O G) O = O from if_neg eF]
        exact ⟨_, rfl, rfl, (if_neg eF).symm, hr, fun _ _ _ => rfl⟩
set_option maxHeartbeats 2000000 in
set_option maxRecDepth 20000 in
theorem m_X8_does7 {σ : ce_S} {g : ce_D} (d : Nat) (K : ce_V) (O : Nat → Int32) (hD : ce_LM σ d) (hr : cr_row (g (d + 4)) (kq K) O) (hk : kv_cl K) (G : Nat) (hG : G < 100000) (hq : G / 10000 = 7) : ce_CT (ce_r 5) mX8_does [.ref (d), .int (nI (G))] σ g (ce_rv σ (fun z9 g1 => z9 = (if kt_f K G = 0 then 1 else 0) ∧ cr_row (g1 (d + 4)) (kq (ks_ite (kt_f K G) (kt_K K G) K)) (ks_ite (kt_f K G) (kt_O K O G) O) ∧ ∀ x, x ≠ d + 4 → x ≠ d + 8 → g1 x = g x)) ce_no := by
  have hB := hk.i7
  have hM := hk.me
  have hW := hk.wi
  have h8 : kq K 0 2 ≤ 8 := by rw [kq_ne (by decide)]; exact hB
  have eEmp : kv_emp (kq K) (kq K 0 2) = kv_emp K (K 0 2) := by rw [kq_emp, kq_ne (a := 0) (by decide)]
  have hst := hk.st
  obtain ⟨a, ha⟩ : ∃ a, G / 1000 % 10 = a := ⟨_, rfl⟩
  obtain ⟨b, hb⟩ : ∃ b, G / 100 % 10 = b := ⟨_, rfl⟩
  obtain ⟨e, he⟩ : ∃ e, G % 100 = e := ⟨_, rfl⟩
  have ha2 : a < 10 := by omega
  have hb2 : b < 10 := by omega
  have he2 : e < 100 := by omega
  have hsa := hst a
  have hsb := hst b
  refine ce_enter (by decide) rfl (Nat.le_of_ble_eq_true rfl) (L := [some (.ref (d)), some (.int (nI (G))), none, none, none, none, none, none, none]) rfl ?_
  refine ce_iload_n dX8_does_0 rfl ?_
  refine ce_sipush (v := nI (10000)) dX8_does_1 (by decide) ?_
  refine ce_idiv (z := nI (7)) dX8_does_4 (nI_ne0 (by omega) (by omega)) ((pk_div (by omega) (by omega) (by omega)).trans (congrArg nI hq)) ?_
  refine ce_istore_n dX8_does_5 (Nat.le_of_ble_eq_true rfl) rfl ?_
  refine ce_iload_n dX8_does_6 rfl ?_
  refine ce_sipush (v := nI (1000)) dX8_does_7 (by decide) ?_
  refine ce_idiv (z := nI ((G) / (1000))) dX8_does_10 (nI_ne0 (by omega) (by omega)) (pk_div (by omega) (by omega) (by omega)) ?_
  refine ce_bipush (v := nI (10)) dX8_does_11 (by decide) ?_
  refine ce_irem (z := nI (a)) dX8_does_13 (nI_ne0 (by omega) (by omega)) ((pk_rem (by omega) (by omega) (by omega)).trans (congrArg nI (ha))) ?_
  refine ce_istore_n dX8_does_14 (Nat.le_of_ble_eq_true rfl) rfl ?_
  refine ce_iload_n dX8_does_15 rfl ?_
  refine ce_bipush (v := nI (100)) dX8_does_16 (by decide) ?_
  refine ce_idiv (z := nI ((G) / (100))) dX8_does_18 (nI_ne0 (by omega) (by omega)) (pk_div (by omega) (by omega) (by omega)) ?_
  refine ce_bipush (v := nI (10)) dX8_does_19 (by decide) ?_
  refine ce_irem (z := nI (b)) dX8_does_21 (nI_ne0 (by omega) (by omega)) ((pk_rem (by omega) (by omega) (by omega)).trans (congrArg nI (hb))) ?_
  refine ce_istore dX8_does_22 (Nat.le_of_ble_eq_true rfl) rfl ?_
  refine ce_iload_n dX8_does_24 rfl ?_
  refine ce_bipush (v := nI (10)) dX8_does_25 (by decide) ?_
  refine ce_idiv (z := nI ((G) / (10))) dX8_does_27 (nI_ne0 (by omega) (by omega)) (pk_div (by omega) (by omega) (by omega)) ?_
  refine ce_bipush (v := nI (10)) dX8_does_28 (by decide) ?_
  refine ce_irem (z := nI (e / 10)) dX8_does_30 (nI_ne0 (by omega) (by omega)) ((pk_rem (by omega) (by omega) (by omega)).trans (congrArg nI (by omega))) ?_
  refine ce_istore dX8_does_31 (Nat.le_of_ble_eq_true rfl) rfl ?_
  refine ce_iload_n dX8_does_33 rfl ?_
  refine ce_bipush (v := nI (10)) dX8_does_34 (by decide) ?_
  refine ce_irem (z := nI (e % 10)) dX8_does_36 (nI_ne0 (by omega) (by omega)) ((pk_rem (by omega) (by omega) (by omega)).trans (congrArg nI (by omega))) ?_
  refine ce_istore dX8_does_37 (Nat.le_of_ble_eq_true rfl) rfl ?_
  refine ce_iload_n dX8_does_39 rfl ?_
  refine ce_bipush (v := nI (100)) dX8_does_40 (by decide) ?_
  refine ce_irem (z := nI (e)) dX8_does_42 (nI_ne0 (by omega) (by omega)) ((pk_rem (by omega) (by omega) (by omega)).trans (congrArg nI (he))) ?_
  refine ce_istore dX8_does_43 (Nat.le_of_ble_eq_true rfl) rfl ?_
  refine ce_iload_n dX8_does_45 rfl ?_
  refine ce_sipush (v := nI (1000)) dX8_does_46 (by decide) ?_
  refine ce_irem (z := nI ((G) % (1000))) dX8_does_49 (nI_ne0 (by omega) (by omega)) (pk_rem (by omega) (by omega) (by omega)) ?_
  refine ce_if_neN (tgt := 57) dX8_does_50 (by decide) rfl (by omega) (fun c_50 => ?_) (fun c_50 => ?_)
  · refine ce_iconst (v := nI (0)) dX8_does_57 (by decide) ?_
    refine ce_istore dX8_does_58 (Nat.le_of_ble_eq_true rfl) rfl ?_
    refine ce_iload_n dX8_does_60 rfl ?_
    refine ce_tableIn (off := 326) (tgt := 387) dX8_does_61 (by decide) (by decide) (by decide) (by decide) ?_
    refine ce_iload_n dX8_does_387 rfl ?_
    refine ce_aload_n dX8_does_388 rfl ?_
    refine ce_getR dX8_does_389 fRX8_19 hD.1 hD.2.1.2.2.2.1 ?_
    refine ce_iconst (v := nI (2)) dX8_does_392 (by decide) ?_
    refine ce_ialdv dX8_does_393 (hD.2.2.2.2.2.1).1 rfl (hD.2.2.2.2.2.1).2 (by omega) (by decide) (((hr).c2).trans (congrArg nI (by rw [kq_ne (by decide)]))) ?_
    refine ce_icmp_geN (tgt := 442) dX8_does_394 (by decide) rfl rfl (by omega) (by omega) (fun c_394 => ?_) (fun c_394 => ?_)
    · refine ce_iconst (v := nI (0)) dX8_does_442 (by decide) ?_
      refine ce_iret dX8_does_443 rfl (by first | rfl | decide | (split <;> rfl)) (by decide) (by decide) ?_
      have eFt : kt_f K G = kv_carF K (nI a) (nI b) (nI e) := by unfold kt_f; rw [hq, ha, hb, he]; try rfl
      have eF : ¬ kt_f K G = 0 := fun q0 => by have q1 : a < K 0 2 ∧ b < K 0 2 ∧ a ≠ b ∧ 1 ≤ e ∧ e ≤ 24 ∧ e ≤ K 12 a ∧ (K 12 b = 0 ∨ K 13 b = K 13 a) ∧ e ≤ K 11 b - K 12 b := (kv_carI hk.rk (by omega) (by omega) (by omega)).mp (eFt.symm.trans q0); omega
      rw [show ks_ite (kt_f K G) (kt_K K G) K = K from if_neg eF, show ks_ite (kt_f K G) (kt_O K O G) O = O from if_neg eF]
      exact ⟨_, rfl, rfl, (if_neg eF).symm, hr, fun _ _ _ => rfl⟩
    · refine ce_iload dX8_does_397 rfl ?_
      refine ce_aload_n dX8_does_399 rfl ?_
      refine ce_getR dX8_does_400 fRX8_19 hD.1 hD.2.1.2.2.2.1 ?_
      refine ce_iconst (v := nI (2)) dX8_does_403 (by decide) ?_
      refine ce_ialdv dX8_does_404 (hD.2.2.2.2.2.1).1 rfl (hD.2.2.2.2.2.1).2 (by omega) (by decide) (((hr).c2).trans (congrArg nI (by rw [kq_ne (by decide)]))) ?_
      refine ce_icmp_geN (tgt := 442) dX8_does_405 (by decide) rfl rfl (by omega) (by omega) (fun c_405 => ?_) (fun c_405 => ?_)
      · refine ce_iconst (v := nI (0)) dX8_does_442 (by decide) ?_
        refine ce_iret dX8_does_443 rfl (by first | rfl | decide | (split <;> rfl)) (by decide) (by decide) ?_
        have eFt : kt_f K G = kv_carF K (nI a) (nI b) (nI e) := by unfold kt_f; rw [hq, ha, hb, he]; try rfl
        have eF : ¬ kt_f K G = 0 := fun q0 => by have q1 : a < K 0 2 ∧ b < K 0 2 ∧ a ≠ b ∧ 1 ≤ e ∧ e ≤ 24 ∧ e ≤ K 12 a ∧ (K 12 b = 0 ∨ K 13 b = K 13 a) ∧ e ≤ K 11 b - K 12 b := (kv_carI hk.rk (by omega) (by omega) (by omega)).mp (eFt.symm.trans q0); omega
        rw [show ks_ite (kt_f K G) (kt_K K G) K = K from if_neg eF, show ks_ite (kt_f K G) (kt_O K O G) O = O from if_neg eF]
        exact ⟨_, rfl, rfl, (if_neg eF).symm, hr, fun _ _ _ => rfl⟩
      · refine ce_iload_n dX8_does_408 rfl ?_
        refine ce_iload dX8_does_409 rfl ?_
        refine ce_icmp_eqN (tgt := 442) dX8_does_411 (by decide) rfl rfl (by omega) (by omega) (fun c_411 => ?_) (fun c_411 => ?_)
        · refine ce_iconst (v := nI (0)) dX8_does_442 (by decide) ?_
          refine ce_iret dX8_does_443 rfl (by first | rfl | decide | (split <;> rfl)) (by decide) (by decide) ?_
          have eFt : kt_f K G = kv_carF K (nI a) (nI b) (nI e) := by unfold kt_f; rw [hq, ha, hb, he]; try rfl
          have eF : ¬ kt_f K G = 0 := fun q0 => by have q1 : a < K 0 2 ∧ b < K 0 2 ∧ a ≠ b ∧ 1 ≤ e ∧ e ≤ 24 ∧ e ≤ K 12 a ∧ (K 12 b = 0 ∨ K 13 b = K 13 a) ∧ e ≤ K 11 b - K 12 b := (kv_carI hk.rk (by omega) (by omega) (by omega)).mp (eFt.symm.trans q0); omega
          rw [show ks_ite (kt_f K G) (kt_K K G) K = K from if_neg eF, show ks_ite (kt_f K G) (kt_O K O G) O = O from if_neg eF]
          exact ⟨_, rfl, rfl, (if_neg eF).symm, hr, fun _ _ _ => rfl⟩
        · refine ce_iload dX8_does_414 rfl ?_
          refine ce_i2l (v := (nI (e)).toInt64) dX8_does_416 rfl ?_
          refine ce_lconst (v := 1) dX8_does_417 (by decide) ?_
          refine ce_ldc2 dX8_does_418 kRX8_201 ?_
          refine ce_cSp dX8_does_421 hX8_in kRX8_108 (m_X8_in ((nI (e)).toInt64) (1) (24) ((1 : Int) ≤ ((e : Nat) : Int) ∧ ((e : Nat) : Int) ≤ (24 : Int)) (cr_io ((cr_tl (nI (e))).trans (nI_toInt (by omega))) (by decide) (by decide))) rfl rfl (by decide) (Nat.le_of_ble_eq_true rfl) ?_
          refine ce_if_eqB (tgt := 442) dX8_does_424 (by decide) rfl (fun c_424 => ?_) (fun c_424 => ?_)
          · refine ce_iconst (v := nI (0)) dX8_does_442 (by decide) ?_
            refine ce_iret dX8_does_443 rfl (by first | rfl | decide | (split <;> rfl)) (by decide) (by decide) ?_
            have eFt : kt_f K G = kv_carF K (nI a) (nI b) (nI e) := by unfold kt_f; rw [hq, ha, hb, he]; try rfl
            have eF : ¬ kt_f K G = 0 := fun q0 => by have q1 : a < K 0 2 ∧ b < K 0 2 ∧ a ≠ b ∧ 1 ≤ e ∧ e ≤ 24 ∧ e ≤ K 12 a ∧ (K 12 b = 0 ∨ K 13 b = K 13 a) ∧ e ≤ K 11 b - K 12 b := (kv_carI hk.rk (by omega) (by omega) (by omega)).mp (eFt.symm.trans q0); omega
            rw [show ks_ite (kt_f K G) (kt_K K G) K = K from if_neg eF, show ks_ite (kt_f K G) (kt_O K O G) O = O from if_neg eF]
            exact ⟨_, rfl, rfl, (if_neg eF).symm, hr, fun _ _ _ => rfl⟩
          · refine ce_aload_n dX8_does_427 rfl ?_
            refine ce_getR dX8_does_428 fRX8_19 hD.1 hD.2.1.2.2.2.1 ?_
            refine ce_iload_n dX8_does_431 rfl ?_
            refine ce_iload dX8_does_432 rfl ?_
            refine ce_iload dX8_does_434 rfl ?_
            refine ce_cSp dX8_does_436 hX8_canMove kRX8_224 (n_canMove ⟨(hD.2.2.2.2.2.1).1, (hD.2.2.2.2.2.1).2⟩ hk hr (a) (b) (e) (by omega) (by omega) (by omega)) rfl rfl (by decide) (Nat.le_of_ble_eq_true rfl) ?_
            refine ce_if_neB (tgt := 444) dX8_does_439 (by decide) rfl (fun c_439 => ?_) (fun c_439 => ?_)
            · refine ce_aload_n dX8_does_444 rfl ?_
              refine ce_getR dX8_does_445 fRX8_19 hD.1 hD.2.1.2.2.2.1 ?_
              refine ce_iload_n dX8_does_448 rfl ?_
              refine ce_iload dX8_does_449 rfl ?_
              refine ce_iload dX8_does_451 rfl ?_
              refine ce_cSu dX8_does_453 hX8_goMove kRX8_228 (n_goMove ⟨(hD.2.2.2.2.2.1).1, (hD.2.2.2.2.2.1).2⟩ hk hr (a) (b) (e) (by omega) (by omega) (by omega) (by omega)) rfl rfl (by decide) (Nat.le_of_ble_eq_true rfl) (fun cg1 hcg1 => ?_)
              refine ce_iconst (v := nI (1)) dX8_does_456 (by decide) ?_
              refine ce_iret dX8_does_457 rfl (by first | rfl | decide | (split <;> rfl)) (by decide) (by decide) ?_
              have eFt : kt_f K G = kv_carF K (nI a) (nI b) (nI e) := by unfold kt_f; rw [hq, ha, hb, he]; try rfl
              have eF : kt_f K G = 0 := eFt.trans ((kv_carI hk.rk (by omega) (by omega) (by omega)).mpr (show a < K 0 2 ∧ b < K 0 2 ∧ a ≠ b ∧ 1 ≤ e ∧ e ≤ 24 ∧ e ≤ K 12 a ∧ (K 12 b = 0 ∨ K 13 b = K 13 a) ∧ e ≤ K 11 b - K 12 b by omega))
              have eK : ks_ite (kt_f K G) (kt_K K G) K = kv_car K a b e := by rw [show ks_ite (kt_f K G) (kt_K K G) K = kt_K K G from if_pos eF]; unfold kt_K; rw [hq, ha, hb, he]; try rfl
              have eO : ks_ite (kt_f K G) (kt_O K O G) O = O := by rw [show ks_ite (kt_f K G) (kt_O K O G) O = kt_O K O G from if_pos eF]; unfold kt_O; rw [hq]; try rfl
              rw [eK, eO]
              exact ⟨_, rfl, rfl, (if_pos eF).symm, hcg1.1, (fun x h4 h8 => hcg1.2 x h4)⟩
            · refine ce_iconst (v := nI (0)) dX8_does_442 (by decide) ?_
              refine ce_iret dX8_does_443 rfl (by first | rfl | decide | (split <;> rfl)) (by decide) (by decide) ?_
              have eFt : kt_f K G = kv_carF K (nI a) (nI b) (nI e) := by unfold kt_f; rw [hq, ha, hb, he]; try rfl
              have eF : ¬ kt_f K G = 0 := fun q0 => by have q1 : a < K 0 2 ∧ b < K 0 2 ∧ a ≠ b ∧ 1 ≤ e ∧ e ≤ 24 ∧ e ≤ K 12 a ∧ (K 12 b = 0 ∨ K 13 b = K 13 a) ∧ e ≤ K 11 b - K 12 b := (kv_carI hk.rk (by omega) (by omega) (by omega)).mp (eFt.symm.trans q0); omega
              rw [show ks_ite (kt_f K G) (kt_K K G) K = K from if_neg eF, show ks_ite (kt_f K G) (kt_O K O G) O = O from if_neg eF]
              exact ⟨_, rfl, rfl, (if_neg eF).symm, hr, fun _ _ _ => rfl⟩
  · refine ce_iconst (v := nI (1)) dX8_does_53 (by decide) ?_
    refine ce_goto (tgt := 58) dX8_does_54 (by decide) ?_
    refine ce_istore dX8_does_58 (Nat.le_of_ble_eq_true rfl) rfl ?_
    refine ce_iload_n dX8_does_60 rfl ?_
    refine ce_tableIn (off := 326) (tgt := 387) dX8_does_61 (by decide) (by decide) (by decide) (by decide) ?_
    refine ce_iload_n dX8_does_387 rfl ?_
    refine ce_aload_n dX8_does_388 rfl ?_
    refine ce_getR dX8_does_389 fRX8_19 hD.1 hD.2.1.2.2.2.1 ?_
    refine ce_iconst (v := nI (2)) dX8_does_392 (by decide) ?_
    refine ce_ialdv dX8_does_393 (hD.2.2.2.2.2.1).1 rfl (hD.2.2.2.2.2.1).2 (by omega) (by decide) (((hr).c2).trans (congrArg nI (by rw [kq_ne (by decide)]))) ?_
    refine ce_icmp_geN (tgt := 442) dX8_does_394 (by decide) rfl rfl (by omega) (by omega) (fun c_394 => ?_) (fun c_394 => ?_)
    · refine ce_iconst (v := nI (0)) dX8_does_442 (by decide) ?_
      refine ce_iret dX8_does_443 rfl (by first | rfl | decide | (split <;> rfl)) (by decide) (by decide) ?_
      have eFt : kt_f K G = kv_carF K (nI a) (nI b) (nI e) := by unfold kt_f; rw [hq, ha, hb, he]; try rfl
      have eF : ¬ kt_f K G = 0 := fun q0 => by have q1 : a < K 0 2 ∧ b < K 0 2 ∧ a ≠ b ∧ 1 ≤ e ∧ e ≤ 24 ∧ e ≤ K 12 a ∧ (K 12 b = 0 ∨ K 13 b = K 13 a) ∧ e ≤ K 11 b - K 12 b := (kv_carI hk.rk (by omega) (by omega) (by omega)).mp (eFt.symm.trans q0); omega
      rw [show ks_ite (kt_f K G) (kt_K K G) K = K from if_neg eF, show ks_ite (kt_f K G) (kt_O K O G) O = O from if_neg eF]
      exact ⟨_, rfl, rfl, (if_neg eF).symm, hr, fun _ _ _ => rfl⟩
    · refine ce_iload dX8_does_397 rfl ?_
      refine ce_aload_n dX8_does_399 rfl ?_
      refine ce_getR dX8_does_400 fRX8_19 hD.1 hD.2.1.2.2.2.1 ?_
      refine ce_iconst (v := nI (2)) dX8_does_403 (by decide) ?_
      refine ce_ialdv dX8_does_404 (hD.2.2.2.2.2.1).1 rfl (hD.2.2.2.2.2.1).2 (by omega) (by decide) (((hr).c2).trans (congrArg nI (by rw [kq_ne (by decide)]))) ?_
      refine ce_icmp_geN (tgt := 442) dX8_does_405 (by decide) rfl rfl (by omega) (by omega) (fun c_405 => ?_) (fun c_405 => ?_)
      · refine ce_iconst (v := nI (0)) dX8_does_442 (by decide) ?_
        refine ce_iret dX8_does_443 rfl (by first | rfl | decide | (split <;> rfl)) (by decide) (by decide) ?_
        have eFt : kt_f K G = kv_carF K (nI a) (nI b) (nI e) := by unfold kt_f; rw [hq, ha, hb, he]; try rfl
        have eF : ¬ kt_f K G = 0 := fun q0 => by have q1 : a < K 0 2 ∧ b < K 0 2 ∧ a ≠ b ∧ 1 ≤ e ∧ e ≤ 24 ∧ e ≤ K 12 a ∧ (K 12 b = 0 ∨ K 13 b = K 13 a) ∧ e ≤ K 11 b - K 12 b := (kv_carI hk.rk (by omega) (by omega) (by omega)).mp (eFt.symm.trans q0); omega
        rw [show ks_ite (kt_f K G) (kt_K K G) K = K from if_neg eF, show ks_ite (kt_f K G) (kt_O K O G) O = O from if_neg eF]
        exact ⟨_, rfl, rfl, (if_neg eF).symm, hr, fun _ _ _ => rfl⟩
      · refine ce_iload_n dX8_does_408 rfl ?_
        refine ce_iload dX8_does_409 rfl ?_
        refine ce_icmp_eqN (tgt := 442) dX8_does_411 (by decide) rfl rfl (by omega) (by omega) (fun c_411 => ?_) (fun c_411 => ?_)
        · refine ce_iconst (v := nI (0)) dX8_does_442 (by decide) ?_
          refine ce_iret dX8_does_443 rfl (by first | rfl | decide | (split <;> rfl)) (by decide) (by decide) ?_
          have eFt : kt_f K G = kv_carF K (nI a) (nI b) (nI e) := by unfold kt_f; rw [hq, ha, hb, he]; try rfl
          have eF : ¬ kt_f K G = 0 := fun q0 => by have q1 : a < K 0 2 ∧ b < K 0 2 ∧ a ≠ b ∧ 1 ≤ e ∧ e ≤ 24 ∧ e ≤ K 12 a ∧ (K 12 b = 0 ∨ K 13 b = K 13 a) ∧ e ≤ K 11 b - K 12 b := (kv_carI hk.rk (by omega) (by omega) (by omega)).mp (eFt.symm.trans q0); omega
          rw [show ks_ite (kt_f K G) (kt_K K G) K = K from if_neg eF, show ks_ite (kt_f K G) (kt_O K O G) O = O from if_neg eF]
          exact ⟨_, rfl, rfl, (if_neg eF).symm, hr, fun _ _ _ => rfl⟩
        · refine ce_iload dX8_does_414 rfl ?_
          refine ce_i2l (v := (nI (e)).toInt64) dX8_does_416 rfl ?_
          refine ce_lconst (v := 1) dX8_does_417 (by decide) ?_
          refine ce_ldc2 dX8_does_418 kRX8_201 ?_
          refine ce_cSp dX8_does_421 hX8_in kRX8_108 (m_X8_in ((nI (e)).toInt64) (1) (24) ((1 : Int) ≤ ((e : Nat) : Int) ∧ ((e : Nat) : Int) ≤ (24 : Int)) (cr_io ((cr_tl (nI (e))).trans (nI_toInt (by omega))) (by decide) (by decide))) rfl rfl (by decide) (Nat.le_of_ble_eq_true rfl) ?_
          refine ce_if_eqB (tgt := 442) dX8_does_424 (by decide) rfl (fun c_424 => ?_) (fun c_424 => ?_)
          · refine ce_iconst (v := nI (0)) dX8_does_442 (by decide) ?_
            refine ce_iret dX8_does_443 rfl (by first | rfl | decide | (split <;> rfl)) (by decide) (by decide) ?_
            have eFt : kt_f K G = kv_carF K (nI a) (nI b) (nI e) := by unfold kt_f; rw [hq, ha, hb, he]; try rfl
            have eF : ¬ kt_f K G = 0 := fun q0 => by have q1 : a < K 0 2 ∧ b < K 0 2 ∧ a ≠ b ∧ 1 ≤ e ∧ e ≤ 24 ∧ e ≤ K 12 a ∧ (K 12 b = 0 ∨ K 13 b = K 13 a) ∧ e ≤ K 11 b - K 12 b := (kv_carI hk.rk (by omega) (by omega) (by omega)).mp (eFt.symm.trans q0); omega
            rw [show ks_ite (kt_f K G) (kt_K K G) K = K from if_neg eF, show ks_ite (kt_f K G) (kt_O K O G) O = O from if_neg eF]
            exact ⟨_, rfl, rfl, (if_neg eF).symm, hr, fun _ _ _ => rfl⟩
          · refine ce_aload_n dX8_does_427 rfl ?_
            refine ce_getR dX8_does_428 fRX8_19 hD.1 hD.2.1.2.2.2.1 ?_
            refine ce_iload_n dX8_does_431 rfl ?_
            refine ce_iload dX8_does_432 rfl ?_
            refine ce_iload dX8_does_434 rfl ?_
            refine ce_cSp dX8_does_436 hX8_canMove kRX8_224 (n_canMove ⟨(hD.2.2.2.2.2.1).1, (hD.2.2.2.2.2.1).2⟩ hk hr (a) (b) (e) (by omega) (by omega) (by omega)) rfl rfl (by decide) (Nat.le_of_ble_eq_true rfl) ?_
            refine ce_if_neB (tgt := 444) dX8_does_439 (by decide) rfl (fun c_439 => ?_) (fun c_439 => ?_)
            · refine ce_aload_n dX8_does_444 rfl ?_
              refine ce_getR dX8_does_445 fRX8_19 hD.1 hD.2.1.2.2.2.1 ?_
              refine ce_iload_n dX8_does_448 rfl ?_
              refine ce_iload dX8_does_449 rfl ?_
              refine ce_iload dX8_does_451 rfl ?_
              refine ce_cSu dX8_does_453 hX8_goMove kRX8_228 (n_goMove ⟨(hD.2.2.2.2.2.1).1, (hD.2.2.2.2.2.1).2⟩ hk hr (a) (b) (e) (by omega) (by omega) (by omega) (by omega)) rfl rfl (by decide) (Nat.le_of_ble_eq_true rfl) (fun cg1 hcg1 => ?_)
              refine ce_iconst (v := nI (1)) dX8_does_456 (by decide) ?_
              refine ce_iret dX8_does_457 rfl (by first | rfl | decide | (split <;> rfl)) (by decide) (by decide) ?_
              have eFt : kt_f K G = kv_carF K (nI a) (nI b) (nI e) := by unfold kt_f; rw [hq, ha, hb, he]; try rfl
              have eF : kt_f K G = 0 := eFt.trans ((kv_carI hk.rk (by omega) (by omega) (by omega)).mpr (show a < K 0 2 ∧ b < K 0 2 ∧ a ≠ b ∧ 1 ≤ e ∧ e ≤ 24 ∧ e ≤ K 12 a ∧ (K 12 b = 0 ∨ K 13 b = K 13 a) ∧ e ≤ K 11 b - K 12 b by omega))
              have eK : ks_ite (kt_f K G) (kt_K K G) K = kv_car K a b e := by rw [show ks_ite (kt_f K G) (kt_K K G) K = kt_K K G from if_pos eF]; unfold kt_K; rw [hq, ha, hb, he]; try rfl
              have eO : ks_ite (kt_f K G) (kt_O K O G) O = O := by rw [show ks_ite (kt_f K G) (kt_O K O G) O = kt_O K O G from if_pos eF]; unfold kt_O; rw [hq]; try rfl
              rw [eK, eO]
              exact ⟨_, rfl, rfl, (if_pos eF).symm, hcg1.1, (fun x h4 h8 => hcg1.2 x h4)⟩
            · refine ce_iconst (v := nI (0)) dX8_does_442 (by decide) ?_
              refine ce_iret dX8_does_443 rfl (by first | rfl | decide | (split <;> rfl)) (by decide) (by decide) ?_
              have eFt : kt_f K G = kv_carF K (nI a) (nI b) (nI e) := by unfold kt_f; rw [hq, ha, hb, he]; try rfl
              have eF : ¬ kt_f K G = 0 := fun q0 => by have q1 : a < K 0 2 ∧ b < K 0 2 ∧ a ≠ b ∧ 1 ≤ e ∧ e ≤ 24 ∧ e ≤ K 12 a ∧ (K 12 b = 0 ∨ K 13 b = K 13 a) ∧ e ≤ K 11 b - K 12 b := (kv_carI hk.rk (by omega) (by omega) (by omega)).mp (eFt.symm.trans q0); omega
              rw [show ks_ite (kt_f K G) (kt_K K G) K = K from if_neg eF, show ks_ite (kt_f K G) (kt_O K O G) O = O from if_neg eF]
              exact ⟨_, rfl, rfl, (if_neg eF).symm, hr, fun _ _ _ => rfl⟩
set_option maxHeartbeats 2000000 in
set_option maxRecDepth 20000 in
theorem m_X8_does8 {σ : ce_S} {g : ce_D} (d : Nat) (K : ce_V) (O : Nat → Int32) (hD : ce_LM σ d) (hr : cr_row (g (d + 4)) (kq K) O) (hk : kv_cl K) (G : Nat) (hG : G < 100000) (hq : G / 10000 = 8) : ce_CT (ce_r 5) mX8_does [.ref (d), .int (nI (G))] σ g (ce_rv σ (fun z9 g1 => z9 = (if kt_f K G = 0 then 1 else 0) ∧ cr_row (g1 (d + 4)) (kq (ks_ite (kt_f K G) (kt_K K G) K)) (ks_ite (kt_f K G) (kt_O K O G) O) ∧ ∀ x, x ≠ d + 4 → x ≠ d + 8 → g1 x = g x)) ce_no := by
  have hB := hk.i7
  have hM := hk.me
  have hW := hk.wi
  have h8 : kq K 0 2 ≤ 8 := by rw [kq_ne (by decide)]; exact hB
  have eEmp : kv_emp (kq K) (kq K 0 2) = kv_emp K (K 0 2) := by rw [kq_emp, kq_ne (a := 0) (by decide)]
  have hst := hk.st
  obtain ⟨a, ha⟩ : ∃ a, G / 1000 % 10 = a := ⟨_, rfl⟩
  obtain ⟨b, hb⟩ : ∃ b, G / 100 % 10 = b := ⟨_, rfl⟩
  obtain ⟨e, he⟩ : ∃ e, G % 100 = e := ⟨_, rfl⟩
  have ha2 : a < 10 := by omega
  have hb2 : b < 10 := by omega
  have he2 : e < 100 := by omega
  have hsa := hst a
  have hsb := hst b
  have hl9 : ∀ m w, m < K 0 0 → w < K 0 1 → K 9 (m * 6 + w) ≤ 60 := fun m w h1 h2 => (hk.le (by omega) (by omega)).2.1
  refine ce_enter (by decide) rfl (Nat.le_of_ble_eq_true rfl) (L := [some (.ref (d)), some (.int (nI (G))), none, none, none, none, none, none, none]) rfl ?_
  refine ce_iload_n dX8_does_0 rfl ?_
  refine ce_sipush (v := nI (10000)) dX8_does_1 (by decide) ?_
  refine ce_idiv (z := nI (8)) dX8_does_4 (nI_ne0 (by omega) (by omega)) ((pk_div (by omega) (by omega) (by omega)).trans (congrArg nI hq)) ?_
  refine ce_istore_n dX8_does_5 (Nat.le_of_ble_eq_true rfl) rfl ?_
  refine ce_iload_n dX8_does_6 rfl ?_
  refine ce_sipush (v := nI (1000)) dX8_does_7 (by decide) ?_
  refine ce_idiv (z := nI ((G) / (1000))) dX8_does_10 (nI_ne0 (by omega) (by omega)) (pk_div (by omega) (by omega) (by omega)) ?_
  refine ce_bipush (v := nI (10)) dX8_does_11 (by decide) ?_
  refine ce_irem (z := nI (a)) dX8_does_13 (nI_ne0 (by omega) (by omega)) ((pk_rem (by omega) (by omega) (by omega)).trans (congrArg nI (ha))) ?_
  refine ce_istore_n dX8_does_14 (Nat.le_of_ble_eq_true rfl) rfl ?_
  refine ce_iload_n dX8_does_15 rfl ?_
  refine ce_bipush (v := nI (100)) dX8_does_16 (by decide) ?_
  refine ce_idiv (z := nI ((G) / (100))) dX8_does_18 (nI_ne0 (by omega) (by omega)) (pk_div (by omega) (by omega) (by omega)) ?_
  refine ce_bipush (v := nI (10)) dX8_does_19 (by decide) ?_
  refine ce_irem (z := nI (b)) dX8_does_21 (nI_ne0 (by omega) (by omega)) ((pk_rem (by omega) (by omega) (by omega)).trans (congrArg nI (hb))) ?_
  refine ce_istore dX8_does_22 (Nat.le_of_ble_eq_true rfl) rfl ?_
  refine ce_iload_n dX8_does_24 rfl ?_
  refine ce_bipush (v := nI (10)) dX8_does_25 (by decide) ?_
  refine ce_idiv (z := nI ((G) / (10))) dX8_does_27 (nI_ne0 (by omega) (by omega)) (pk_div (by omega) (by omega) (by omega)) ?_
  refine ce_bipush (v := nI (10)) dX8_does_28 (by decide) ?_
  refine ce_irem (z := nI (e / 10)) dX8_does_30 (nI_ne0 (by omega) (by omega)) ((pk_rem (by omega) (by omega) (by omega)).trans (congrArg nI (by omega))) ?_
  refine ce_istore dX8_does_31 (Nat.le_of_ble_eq_true rfl) rfl ?_
  refine ce_iload_n dX8_does_33 rfl ?_
  refine ce_bipush (v := nI (10)) dX8_does_34 (by decide) ?_
  refine ce_irem (z := nI (e % 10)) dX8_does_36 (nI_ne0 (by omega) (by omega)) ((pk_rem (by omega) (by omega) (by omega)).trans (congrArg nI (by omega))) ?_
  refine ce_istore dX8_does_37 (Nat.le_of_ble_eq_true rfl) rfl ?_
  refine ce_iload_n dX8_does_39 rfl ?_
  refine ce_bipush (v := nI (100)) dX8_does_40 (by decide) ?_
  refine ce_irem (z := nI (e)) dX8_does_42 (nI_ne0 (by omega) (by omega)) ((pk_rem (by omega) (by omega) (by omega)).trans (congrArg nI (he))) ?_
  refine ce_istore dX8_does_43 (Nat.le_of_ble_eq_true rfl) rfl ?_
  refine ce_iload_n dX8_does_45 rfl ?_
  refine ce_sipush (v := nI (1000)) dX8_does_46 (by decide) ?_
  refine ce_irem (z := nI ((G) % (1000))) dX8_does_49 (nI_ne0 (by omega) (by omega)) (pk_rem (by omega) (by omega) (by omega)) ?_
  refine ce_if_neN (tgt := 57) dX8_does_50 (by decide) rfl (by omega) (fun c_50 => ?_) (fun c_50 => ?_)
  · refine ce_iconst (v := nI (0)) dX8_does_57 (by decide) ?_
    refine ce_istore dX8_does_58 (Nat.le_of_ble_eq_true rfl) rfl ?_
    refine ce_iload_n dX8_does_60 rfl ?_
    refine ce_tableIn (off := 397) (tgt := 458) dX8_does_61 (by decide) (by decide) (by decide) (by decide) ?_
    refine ce_aload_n dX8_does_458 rfl ?_
    refine ce_getR dX8_does_459 fRX8_19 hD.1 hD.2.1.2.2.2.1 ?_
    refine ce_iload_n dX8_does_462 rfl ?_
    refine ce_iload dX8_does_463 rfl ?_
    refine ce_iload dX8_does_465 rfl ?_
    refine ce_cSp dX8_does_467 hX8_owns kRX8_241 (n_owns ⟨(hD.2.2.2.2.2.1).1, (hD.2.2.2.2.2.1).2⟩ hk hr (a) (b) (e) (by omega) (by omega) (by omega)) rfl rfl (by decide) (Nat.le_of_ble_eq_true rfl) ?_
    refine ce_iret dX8_does_470 rfl (by first | rfl | decide | (split <;> rfl)) (by decide) (by decide) ?_
    have eFt : kt_f K G = (if a < K 0 0 ∧ b < K 0 1 ∧ e ≤ K 9 (a * 6 + b) then 0 else 9) := by unfold kt_f; rw [hq, ha, hb, he]; try rfl
    have eP : (a < K 0 0 ∧ b < K 0 1 ∧ e ≤ K 9 (a * 6 + b)) ↔ kt_f K G = 0 := by
      rw [eFt]
      split <;> omega
    have eK : ∀ x : Nat, ks_ite x (kt_K K G) K = K := fun x => by unfold kt_K ks_ite; rw [hq]; split <;> rfl
    have eO : ∀ x : Nat, ks_ite x (kt_O K O G) O = O := fun x => by unfold kt_O ks_ite; rw [hq]; split <;> rfl
    rw [eK, eO]
    exact ⟨_, rfl, rfl, cr_ifc eP, hr, fun _ _ _ => rfl⟩
  · refine ce_iconst (v := nI (1)) dX8_does_53 (by decide) ?_
    refine ce_goto (tgt := 58) dX8_does_54 (by decide) ?_
    refine ce_istore dX8_does_58 (Nat.le_of_ble_eq_true rfl) rfl ?_
    refine ce_iload_n dX8_does_60 rfl ?_
    refine ce_tableIn (off := 397) (tgt := 458) dX8_does_61 (by decide) (by decide) (by decide) (by decide) ?_
    refine ce_aload_n dX8_does_458 rfl ?_
    refine ce_getR dX8_does_459 fRX8_19 hD.1 hD.2.1.2.2.2.1 ?_
    refine ce_iload_n dX8_does_462 rfl ?_
    refine ce_iload dX8_does_463 rfl ?_
    refine ce_iload dX8_does_465 rfl ?_
    refine ce_cSp dX8_does_467 hX8_owns kRX8_241 (n_owns ⟨(hD.2.2.2.2.2.1).1, (hD.2.2.2.2.2.1).2⟩ hk hr (a) (b) (e) (by omega) (by omega) (by omega)) rfl rfl (by decide) (Nat.le_of_ble_eq_true rfl) ?_
    refine ce_iret dX8_does_470 rfl (by first | rfl | decide | (split <;> rfl)) (by decide) (by decide) ?_
    have eFt : kt_f K G = (if a < K 0 0 ∧ b < K 0 1 ∧ e ≤ K 9 (a * 6 + b) then 0 else 9) := by unfold kt_f; rw [hq, ha, hb, he]; try rfl
    have eP : (a < K 0 0 ∧ b < K 0 1 ∧ e ≤ K 9 (a * 6 + b)) ↔ kt_f K G = 0 := by
      rw [eFt]
      split <;> omega
    have eK : ∀ x : Nat, ks_ite x (kt_K K G) K = K := fun x => by unfold kt_K ks_ite; rw [hq]; split <;> rfl
    have eO : ∀ x : Nat, ks_ite x (kt_O K O G) O = O := fun x => by unfold kt_O ks_ite; rw [hq]; split <;> rfl
    rw [eK, eO]
    exact ⟨_, rfl, rfl, cr_ifc eP, hr, fun _ _ _ => rfl⟩
set_option maxHeartbeats 2000000 in
set_option maxRecDepth 20000 in
theorem m_X8_does9 {σ : ce_S} {g : ce_D} (d : Nat) (K : ce_V) (O : Nat → Int32) (hD : ce_LM σ d) (hr : cr_row (g (d + 4)) (kq K) O) (hk : kv_cl K) (G : Nat) (hG : G < 100000) (hq : G / 10000 = 9) : ce_CT (ce_r 5) mX8_does [.ref (d), .int (nI (G))] σ g (ce_rv σ (fun z9 g1 => z9 = (if kt_f K G = 0 then 1 else 0) ∧ cr_row (g1 (d + 4)) (kq (ks_ite (kt_f K G) (kt_K K G) K)) (ks_ite (kt_f K G) (kt_O K O G) O) ∧ ∀ x, x ≠ d + 4 → x ≠ d + 8 → g1 x = g x)) ce_no := by
  have hB := hk.i7
  have hM := hk.me
  have hW := hk.wi
  have h8 : kq K 0 2 ≤ 8 := by rw [kq_ne (by decide)]; exact hB
  have eEmp : kv_emp (kq K) (kq K 0 2) = kv_emp K (K 0 2) := by rw [kq_emp, kq_ne (a := 0) (by decide)]
  have hst := hk.st
  obtain ⟨a, ha⟩ : ∃ a, G / 1000 % 10 = a := ⟨_, rfl⟩
  obtain ⟨b, hb⟩ : ∃ b, G / 100 % 10 = b := ⟨_, rfl⟩
  obtain ⟨e, he⟩ : ∃ e, G % 100 = e := ⟨_, rfl⟩
  have ha2 : a < 10 := by omega
  have hb2 : b < 10 := by omega
  have he2 : e < 100 := by omega
  have hsa := hst a
  have hsb := hst b
  have he5 := kv_emp_le K (K 0 2)
  refine ce_enter (by decide) rfl (Nat.le_of_ble_eq_true rfl) (L := [some (.ref (d)), some (.int (nI (G))), none, none, none, none, none, none, none]) rfl ?_
  refine ce_iload_n dX8_does_0 rfl ?_
  refine ce_sipush (v := nI (10000)) dX8_does_1 (by decide) ?_
  refine ce_idiv (z := nI (9)) dX8_does_4 (nI_ne0 (by omega) (by omega)) ((pk_div (by omega) (by omega) (by omega)).trans (congrArg nI hq)) ?_
  refine ce_istore_n dX8_does_5 (Nat.le_of_ble_eq_true rfl) rfl ?_
  refine ce_iload_n dX8_does_6 rfl ?_
  refine ce_sipush (v := nI (1000)) dX8_does_7 (by decide) ?_
  refine ce_idiv (z := nI ((G) / (1000))) dX8_does_10 (nI_ne0 (by omega) (by omega)) (pk_div (by omega) (by omega) (by omega)) ?_
  refine ce_bipush (v := nI (10)) dX8_does_11 (by decide) ?_
  refine ce_irem (z := nI (a)) dX8_does_13 (nI_ne0 (by omega) (by omega)) ((pk_rem (by omega) (by omega) (by omega)).trans (congrArg nI (ha))) ?_
  refine ce_istore_n dX8_does_14 (Nat.le_of_ble_eq_true rfl) rfl ?_
  refine ce_iload_n dX8_does_15 rfl ?_
  refine ce_bipush (v := nI (100)) dX8_does_16 (by decide) ?_
  refine ce_idiv (z := nI ((G) / (100))) dX8_does_18 (nI_ne0 (by omega) (by omega)) (pk_div (by omega) (by omega) (by omega)) ?_
  refine ce_bipush (v := nI (10)) dX8_does_19 (by decide) ?_
  refine ce_irem (z := nI (b)) dX8_does_21 (nI_ne0 (by omega) (by omega)) ((pk_rem (by omega) (by omega) (by omega)).trans (congrArg nI (hb))) ?_
  refine ce_istore dX8_does_22 (Nat.le_of_ble_eq_true rfl) rfl ?_
  refine ce_iload_n dX8_does_24 rfl ?_
  refine ce_bipush (v := nI (10)) dX8_does_25 (by decide) ?_
  refine ce_idiv (z := nI ((G) / (10))) dX8_does_27 (nI_ne0 (by omega) (by omega)) (pk_div (by omega) (by omega) (by omega)) ?_
  refine ce_bipush (v := nI (10)) dX8_does_28 (by decide) ?_
  refine ce_irem (z := nI (e / 10)) dX8_does_30 (nI_ne0 (by omega) (by omega)) ((pk_rem (by omega) (by omega) (by omega)).trans (congrArg nI (by omega))) ?_
  refine ce_istore dX8_does_31 (Nat.le_of_ble_eq_true rfl) rfl ?_
  refine ce_iload_n dX8_does_33 rfl ?_
  refine ce_bipush (v := nI (10)) dX8_does_34 (by decide) ?_
  refine ce_irem (z := nI (e % 10)) dX8_does_36 (nI_ne0 (by omega) (by omega)) ((pk_rem (by omega) (by omega) (by omega)).trans (congrArg nI (by omega))) ?_
  refine ce_istore dX8_does_37 (Nat.le_of_ble_eq_true rfl) rfl ?_
  refine ce_iload_n dX8_does_39 rfl ?_
  refine ce_bipush (v := nI (100)) dX8_does_40 (by decide) ?_
  refine ce_irem (z := nI (e)) dX8_does_42 (nI_ne0 (by omega) (by omega)) ((pk_rem (by omega) (by omega) (by omega)).trans (congrArg nI (he))) ?_
  refine ce_istore dX8_does_43 (Nat.le_of_ble_eq_true rfl) rfl ?_
  refine ce_iload_n dX8_does_45 rfl ?_
  refine ce_sipush (v := nI (1000)) dX8_does_46 (by decide) ?_
  refine ce_irem (z := nI ((G) % (1000))) dX8_does_49 (nI_ne0 (by omega) (by omega)) (pk_rem (by omega) (by omega) (by omega)) ?_
  refine ce_if_neN (tgt := 57) dX8_does_50 (by decide) rfl (by omega) (fun c_50 => ?_) (fun c_50 => ?_)
  · refine ce_iconst (v := nI (0)) dX8_does_57 (by decide) ?_
    refine ce_istore dX8_does_58 (Nat.le_of_ble_eq_true rfl) rfl ?_
    refine ce_iload_n dX8_does_60 rfl ?_
    refine ce_tableIn (off := 410) (tgt := 471) dX8_does_61 (by decide) (by decide) (by decide) (by decide) ?_
    refine ce_iload_n dX8_does_471 rfl ?_
    refine ce_if_neN (tgt := 501) dX8_does_472 (by decide) rfl (by omega) (fun c_472 => ?_) (fun c_472 => ?_)
    · refine ce_iconst (v := nI (0)) dX8_does_501 (by decide) ?_
      refine ce_iret dX8_does_502 rfl (by first | rfl | decide | (split <;> rfl)) (by decide) (by decide) ?_
      have eFt : kt_f K G = (if a = 0 ∧ b = 0 ∧ e < 10 ∧ e ≤ kv_emp K (K 0 2) then 0 else 9) := by unfold kt_f; rw [hq, ha, hb, he]; try rfl
      have eF : ¬ kt_f K G = 0 := fun q0 => by rw [eFt] at q0; split at q0 <;> omega
      rw [show ks_ite (kt_f K G) (kt_K K G) K = K from if_neg eF, show ks_ite (kt_f K G) (kt_O K O G) O = O from if_neg eF]
      exact ⟨_, rfl, rfl, (if_neg eF).symm, hr, fun _ _ _ => rfl⟩
    · refine ce_iload dX8_does_475 rfl ?_
      refine ce_if_neN (tgt := 501) dX8_does_477 (by decide) rfl (by omega) (fun c_477 => ?_) (fun c_477 => ?_)
      · refine ce_iconst (v := nI (0)) dX8_does_501 (by decide) ?_
        refine ce_iret dX8_does_502 rfl (by first | rfl | decide | (split <;> rfl)) (by decide) (by decide) ?_
        have eFt : kt_f K G = (if a = 0 ∧ b = 0 ∧ e < 10 ∧ e ≤ kv_emp K (K 0 2) then 0 else 9) := by unfold kt_f; rw [hq, ha, hb, he]; try rfl
        have eF : ¬ kt_f K G = 0 := fun q0 => by rw [eFt] at q0; split at q0 <;> omega
        rw [show ks_ite (kt_f K G) (kt_K K G) K = K from if_neg eF, show ks_ite (kt_f K G) (kt_O K O G) O = O from if_neg eF]
        exact ⟨_, rfl, rfl, (if_neg eF).symm, hr, fun _ _ _ => rfl⟩
      · refine ce_iload dX8_does_480 rfl ?_
        refine ce_if_neN (tgt := 501) dX8_does_482 (by decide) rfl (by omega) (fun c_482 => ?_) (fun c_482 => ?_)
        · refine ce_iconst (v := nI (0)) dX8_does_501 (by decide) ?_
          refine ce_iret dX8_does_502 rfl (by first | rfl | decide | (split <;> rfl)) (by decide) (by decide) ?_
          have eFt : kt_f K G = (if a = 0 ∧ b = 0 ∧ e < 10 ∧ e ≤ kv_emp K (K 0 2) then 0 else 9) := by unfold kt_f; rw [hq, ha, hb, he]; try rfl
          have eF : ¬ kt_f K G = 0 := fun q0 => by rw [eFt] at q0; split at q0 <;> omega
          rw [show ks_ite (kt_f K G) (kt_K K G) K = K from if_neg eF, show ks_ite (kt_f K G) (kt_O K O G) O = O from if_neg eF]
          exact ⟨_, rfl, rfl, (if_neg eF).symm, hr, fun _ _ _ => rfl⟩
        · refine ce_aload_n dX8_does_485 rfl ?_
          refine ce_getR dX8_does_486 fRX8_19 hD.1 hD.2.1.2.2.2.1 ?_
          refine ce_cSp dX8_does_489 hX8_emptyBins kRX8_168 (eEmp ▸ m_X8_emptyBins (d + 4) (kq K) O ⟨(hD.2.2.2.2.2.1).1, (hD.2.2.2.2.2.1).2⟩ hr h8 (kq_rk hk.rk)) rfl rfl (by decide) (Nat.le_of_ble_eq_true rfl) ?_
          refine ce_iload dX8_does_492 rfl ?_
          refine ce_icmp_ltN (tgt := 501) dX8_does_494 (by decide) rfl rfl (by omega) (by omega) (fun c_494 => ?_) (fun c_494 => ?_)
          · refine ce_iconst (v := nI (0)) dX8_does_501 (by decide) ?_
            refine ce_iret dX8_does_502 rfl (by first | rfl | decide | (split <;> rfl)) (by decide) (by decide) ?_
            have eFt : kt_f K G = (if a = 0 ∧ b = 0 ∧ e < 10 ∧ e ≤ kv_emp K (K 0 2) then 0 else 9) := by unfold kt_f; rw [hq, ha, hb, he]; try rfl
            have eF : ¬ kt_f K G = 0 := fun q0 => by rw [eFt] at q0; split at q0 <;> omega
            rw [show ks_ite (kt_f K G) (kt_K K G) K = K from if_neg eF, show ks_ite (kt_f K G) (kt_O K O G) O = O from if_neg eF]
            exact ⟨_, rfl, rfl, (if_neg eF).symm, hr, fun _ _ _ => rfl⟩
          · refine ce_iconst (v := nI (1)) dX8_does_497 (by decide) ?_
            refine ce_goto (tgt := 502) dX8_does_498 (by decide) ?_
            refine ce_iret dX8_does_502 rfl (by first | rfl | decide | (split <;> rfl)) (by decide) (by decide) ?_
            have eFt : kt_f K G = (if a = 0 ∧ b = 0 ∧ e < 10 ∧ e ≤ kv_emp K (K 0 2) then 0 else 9) := by unfold kt_f; rw [hq, ha, hb, he]; try rfl
            have eF : kt_f K G = 0 := eFt.trans (if_pos (by omega))
            have eK : ks_ite (kt_f K G) (kt_K K G) K = K := by rw [show ks_ite (kt_f K G) (kt_K K G) K = kt_K K G from if_pos eF]; unfold kt_K; rw [hq]; try rfl
            have eO : ks_ite (kt_f K G) (kt_O K O G) O = O := by rw [show ks_ite (kt_f K G) (kt_O K O G) O = kt_O K O G from if_pos eF]; unfold kt_O; rw [hq]; try rfl
            rw [eK, eO]
            exact ⟨_, rfl, rfl, (if_pos eF).symm, hr, fun _ _ _ => rfl⟩
  · refine ce_iconst (v := nI (1)) dX8_does_53 (by decide) ?_
    refine ce_goto (tgt := 58) dX8_does_54 (by decide) ?_
    refine ce_istore dX8_does_58 (Nat.le_of_ble_eq_true rfl) rfl ?_
    refine ce_iload_n dX8_does_60 rfl ?_
    refine ce_tableIn (off := 410) (tgt := 471) dX8_does_61 (by decide) (by decide) (by decide) (by decide) ?_
    refine ce_iload_n dX8_does_471 rfl ?_
    refine ce_if_neN (tgt := 501) dX8_does_472 (by decide) rfl (by omega) (fun c_472 => ?_) (fun c_472 => ?_)
    · refine ce_iconst (v := nI (0)) dX8_does_501 (by decide) ?_
      refine ce_iret dX8_does_502 rfl (by first | rfl | decide | (split <;> rfl)) (by decide) (by decide) ?_
      have eFt : kt_f K G = (if a = 0 ∧ b = 0 ∧ e < 10 ∧ e ≤ kv_emp K (K 0 2) then 0 else 9) := by unfold kt_f; rw [hq, ha, hb, he]; try rfl
      have eF : ¬ kt_f K G = 0 := fun q0 => by rw [eFt] at q0; split at q0 <;> omega
      rw [show ks_ite (kt_f K G) (kt_K K G) K = K from if_neg eF, show ks_ite (kt_f K G) (kt_O K O G) O = O from if_neg eF]
      exact ⟨_, rfl, rfl, (if_neg eF).symm, hr, fun _ _ _ => rfl⟩
    · refine ce_iload dX8_does_475 rfl ?_
      refine ce_if_neN (tgt := 501) dX8_does_477 (by decide) rfl (by omega) (fun c_477 => ?_) (fun c_477 => ?_)
      · refine ce_iconst (v := nI (0)) dX8_does_501 (by decide) ?_
        refine ce_iret dX8_does_502 rfl (by first | rfl | decide | (split <;> rfl)) (by decide) (by decide) ?_
        have eFt : kt_f K G = (if a = 0 ∧ b = 0 ∧ e < 10 ∧ e ≤ kv_emp K (K 0 2) then 0 else 9) := by unfold kt_f; rw [hq, ha, hb, he]; try rfl
        have eF : ¬ kt_f K G = 0 := fun q0 => by rw [eFt] at q0; split at q0 <;> omega
        rw [show ks_ite (kt_f K G) (kt_K K G) K = K from if_neg eF, show ks_ite (kt_f K G) (kt_O K O G) O = O from if_neg eF]
        exact ⟨_, rfl, rfl, (if_neg eF).symm, hr, fun _ _ _ => rfl⟩
      · refine ce_iload dX8_does_480 rfl ?_
        refine ce_if_neN (tgt := 501) dX8_does_482 (by decide) rfl (by omega) (fun c_482 => ?_) (fun c_482 => ?_)
        · refine ce_iconst (v := nI (0)) dX8_does_501 (by decide) ?_
          refine ce_iret dX8_does_502 rfl (by first | rfl | decide | (split <;> rfl)) (by decide) (by decide) ?_
          have eFt : kt_f K G = (if a = 0 ∧ b = 0 ∧ e < 10 ∧ e ≤ kv_emp K (K 0 2) then 0 else 9) := by unfold kt_f; rw [hq, ha, hb, he]; try rfl
          have eF : ¬ kt_f K G = 0 := fun q0 => by rw [eFt] at q0; split at q0 <;> omega
          rw [show ks_ite (kt_f K G) (kt_K K G) K = K from if_neg eF, show ks_ite (kt_f K G) (kt_O K O G) O = O from if_neg eF]
          exact ⟨_, rfl, rfl, (if_neg eF).symm, hr, fun _ _ _ => rfl⟩
        · refine ce_aload_n dX8_does_485 rfl ?_
          refine ce_getR dX8_does_486 fRX8_19 hD.1 hD.2.1.2.2.2.1 ?_
          refine ce_cSp dX8_does_489 hX8_emptyBins kRX8_168 (eEmp ▸ m_X8_emptyBins (d + 4) (kq K) O ⟨(hD.2.2.2.2.2.1).1, (hD.2.2.2.2.2.1).2⟩ hr h8 (kq_rk hk.rk)) rfl rfl (by decide) (Nat.le_of_ble_eq_true rfl) ?_
          refine ce_iload dX8_does_492 rfl ?_
          refine ce_icmp_ltN (tgt := 501) dX8_does_494 (by decide) rfl rfl (by omega) (by omega) (fun c_494 => ?_) (fun c_494 => ?_)
          · refine ce_iconst (v := nI (0)) dX8_does_501 (by decide) ?_
            refine ce_iret dX8_does_502 rfl (by first | rfl | decide | (split <;> rfl)) (by decide) (by decide) ?_
            have eFt : kt_f K G = (if a = 0 ∧ b = 0 ∧ e < 10 ∧ e ≤ kv_emp K (K 0 2) then 0 else 9) := by unfold kt_f; rw [hq, ha, hb, he]; try rfl
            have eF : ¬ kt_f K G = 0 := fun q0 => by rw [eFt] at q0; split at q0 <;> omega
            rw [show ks_ite (kt_f K G) (kt_K K G) K = K from if_neg eF, show ks_ite (kt_f K G) (kt_O K O G) O = O from if_neg eF]
            exact ⟨_, rfl, rfl, (if_neg eF).symm, hr, fun _ _ _ => rfl⟩
          · refine ce_iconst (v := nI (1)) dX8_does_497 (by decide) ?_
            refine ce_goto (tgt := 502) dX8_does_498 (by decide) ?_
            refine ce_iret dX8_does_502 rfl (by first | rfl | decide | (split <;> rfl)) (by decide) (by decide) ?_
            have eFt : kt_f K G = (if a = 0 ∧ b = 0 ∧ e < 10 ∧ e ≤ kv_emp K (K 0 2) then 0 else 9) := by unfold kt_f; rw [hq, ha, hb, he]; try rfl
            have eF : kt_f K G = 0 := eFt.trans (if_pos (by omega))
            have eK : ks_ite (kt_f K G) (kt_K K G) K = K := by rw [show ks_ite (kt_f K G) (kt_K K G) K = kt_K K G from if_pos eF]; unfold kt_K; rw [hq]; try rfl
            have eO : ks_ite (kt_f K G) (kt_O K O G) O = O := by rw [show ks_ite (kt_f K G) (kt_O K O G) O = kt_O K O G from if_pos eF]; unfold kt_O; rw [hq]; try rfl
            rw [eK, eO]
            exact ⟨_, rfl, rfl, (if_pos eF).symm, hr, fun _ _ _ => rfl⟩
theorem m_X8_does {σ : ce_S} {g : ce_D} (d : Nat) (K : ce_V) (O : Nat → Int32) (hD : ce_LM σ d) (hr : cr_row (g (d + 4)) (kq K) O) (hk : kv_cl K) (G : Nat) (hG : G < 100000) : ce_CT (ce_r 5) mX8_does [.ref (d), .int (nI (G))] σ g (ce_rv σ (fun z9 g1 => z9 = (if kt_f K G = 0 then 1 else 0) ∧ cr_row (g1 (d + 4)) (kq (ks_ite (kt_f K G) (kt_K K G) K)) (ks_ite (kt_f K G) (kt_O K O G) O) ∧ ∀ x, x ≠ d + 4 → x ≠ d + 8 → g1 x = g x)) ce_no := by
  have h : G / 10000 = 0 ∨ G / 10000 = 1 ∨ G / 10000 = 2 ∨ G / 10000 = 3 ∨ G / 10000 = 4 ∨ G / 10000 = 5 ∨ G / 10000 = 6 ∨ G / 10000 = 7 ∨ G / 10000 = 8 ∨ G / 10000 = 9 := by omega
  rcases h with h | h | h | h | h | h | h | h | h | h
  · exact m_X8_does0 d K O hD hr hk G hG h
  · exact m_X8_does1 d K O hD hr hk G hG h
  · exact m_X8_does2 d K O hD hr hk G hG h
  · exact m_X8_does3 d K O hD hr hk G hG h
  · exact m_X8_does4 d K O hD hr hk G hG h
  · exact m_X8_does5 d K O hD hr hk G hG h
  · exact m_X8_does6 d K O hD hr hk G hG h
  · exact m_X8_does7 d K O hD hr hk G hG h
  · exact m_X8_does8 d K O hD hr hk G hG h
  · exact m_X8_does9 d K O hD hr hk G hG h
