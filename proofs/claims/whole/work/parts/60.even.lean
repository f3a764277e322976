set_option maxHeartbeats 2000000 in
set_option maxRecDepth 20000 in
theorem m_X8_evening {σ : ce_S} {g : ce_D} (d : Nat) (K : ce_V) (O : Nat → Int32) (hD : ce_LM σ d) (hr : cr_row (g (d + 4)) (kq K) O) (hk : kv_cl K) (R : Nat) (hR : R < 2 ^ 31) (h1 : 0 < K 0 0) (h2 : 0 < K 0 1) : ce_CT (ce_r 5) mX8_evening [.ref (d), .int (nI (R))] σ g (ce_uv σ (fun g1 => cr_row (g1 (d + 4)) (kq (kx_eK K R)) (kx_eO K O R) ∧ ∀ x, x ≠ d + 4 → x ≠ d + 8 → g1 x = g x)) ce_no := by
  have hB := hk.i7
  have hM := hk.me
  have hW := hk.wi
  have h8 : kq K 0 2 ≤ 8 := by rw [kq_ne (by decide)]; exact hB
  have eEmp : kv_emp (kq K) (kq K 0 2) = kv_emp K (K 0 2) := by rw [kq_emp, kq_ne (a := 0) (by decide)]
  have hst := hk.st
  obtain ⟨m, hm⟩ : ∃ m, R / 8 % K 0 0 = m := ⟨_, rfl⟩
  obtain ⟨w, hw⟩ : ∃ w, R / 64 % K 0 1 = w := ⟨_, rfl⟩
  obtain ⟨o, ho⟩ : ∃ o, R / 1024 % K 0 0 = o := ⟨_, rfl⟩
  have hm2 : m < K 0 0 := hm ▸ Nat.mod_lt _ h1
  have hw2 : w < K 0 1 := hw ▸ Nat.mod_lt _ h2
  have ho2 : o < K 0 0 := ho ▸ Nat.mod_lt _ h1
  have hm3 : ke_m K R = m := hm
  have hw3 : ke_w K R = w := hw
  have ho3 : ke_o K R = o := ho
  have hl9 := (hk.le (m := m) (w := w) (by omega) (by omega)).2.1
  refine ce_enter (by decide) rfl (Nat.le_of_ble_eq_true rfl) (L := [some (.ref (d)), some (.int (nI (R))), none, none, none, none]) rfl ?_
  refine ce_iload_n dX8_evening_0 rfl ?_
  refine ce_bipush (v := nI (8)) dX8_evening_1 (by decide) ?_
  refine ce_idiv (z := nI ((R) / (8))) dX8_evening_3 (nI_ne0 (by omega) (by omega)) (pk_div (by omega) (by omega) (by omega)) ?_
  refine ce_aload_n dX8_evening_4 rfl ?_
  refine ce_getR dX8_evening_5 fRX8_19 hD.1 hD.2.1.2.2.2.1 ?_
  refine ce_iconst (v := nI (0)) dX8_evening_8 (by decide) ?_
  refine ce_ialdv dX8_evening_9 (hD.2.2.2.2.2.1).1 rfl (hD.2.2.2.2.2.1).2 (by omega) (by decide) (((hr).c0).trans (congrArg nI (by rw [kq_ne (by decide)]))) ?_
  refine ce_irem (z := nI (m)) dX8_evening_10 (nI_ne0 (by omega) (by omega)) ((pk_rem (by omega) (by omega) (by omega)).trans (congrArg nI (hm))) ?_
  refine ce_istore_n dX8_evening_11 (Nat.le_of_ble_eq_true rfl) rfl ?_
  refine ce_iload_n dX8_evening_12 rfl ?_
  refine ce_bipush (v := nI (64)) dX8_evening_13 (by decide) ?_
  refine ce_idiv (z := nI ((R) / (64))) dX8_evening_15 (nI_ne0 (by omega) (by omega)) (pk_div (by omega) (by omega) (by omega)) ?_
  refine ce_aload_n dX8_evening_16 rfl ?_
  refine ce_getR dX8_evening_17 fRX8_19 hD.1 hD.2.1.2.2.2.1 ?_
  refine ce_iconst (v := nI (1)) dX8_evening_20 (by decide) ?_
  refine ce_ialdv dX8_evening_21 (hD.2.2.2.2.2.1).1 rfl (hD.2.2.2.2.2.1).2 (by omega) (by decide) (((hr).c1).trans (congrArg nI (by rw [kq_ne (by decide)]))) ?_
  refine ce_irem (z := nI (w)) dX8_evening_22 (nI_ne0 (by omega) (by omega)) ((pk_rem (by omega) (by omega) (by omega)).trans (congrArg nI (hw))) ?_
  refine ce_istore_n dX8_evening_23 (Nat.le_of_ble_eq_true rfl) rfl ?_
  refine ce_iconst (v := nI (1)) dX8_evening_24 (by decide) ?_
  refine ce_iload_n dX8_evening_25 rfl ?_
  refine ce_sipush (v := nI (1024)) dX8_evening_26 (by decide) ?_
  refine ce_idiv (z := nI ((R) / (1024))) dX8_evening_29 (nI_ne0 (by omega) (by omega)) (pk_div (by omega) (by omega) (by omega)) ?_
  refine ce_iconst (v := nI (3)) dX8_evening_30 (by decide) ?_
  refine ce_irem (z := nI (((R) / (1024)) % (3))) dX8_evening_31 (nI_ne0 (by omega) (by omega)) (pk_rem (by omega) (by omega) (by omega)) ?_
  refine ce_iadd (z := nI (1 + (((R) / (1024)) % (3)))) dX8_evening_32 (nI_add _ _) ?_
  refine ce_istore dX8_evening_33 (Nat.le_of_ble_eq_true rfl) rfl ?_
  refine ce_iload_n dX8_evening_35 rfl ?_
  refine ce_sipush (v := nI (1024)) dX8_evening_36 (by decide) ?_
  refine ce_idiv (z := nI ((R) / (1024))) dX8_evening_39 (nI_ne0 (by omega) (by omega)) (pk_div (by omega) (by omega) (by omega)) ?_
  refine ce_aload_n dX8_evening_40 rfl ?_
  refine ce_getR dX8_evening_41 fRX8_19 hD.1 hD.2.1.2.2.2.1 ?_
  refine ce_iconst (v := nI (0)) dX8_evening_44 (by decide) ?_
  refine ce_ialdv dX8_evening_45 (hD.2.2.2.2.2.1).1 rfl (hD.2.2.2.2.2.1).2 (by omega) (by decide) (((hr).c0).trans (congrArg nI (by rw [kq_ne (by decide)]))) ?_
  refine ce_irem (z := nI (o)) dX8_evening_46 (nI_ne0 (by omega) (by omega)) ((pk_rem (by omega) (by omega) (by omega)).trans (congrArg nI (ho))) ?_
  refine ce_istore dX8_evening_47 (Nat.le_of_ble_eq_true rfl) rfl ?_
  refine ce_iload_n dX8_evening_49 rfl ?_
  refine ce_bipush (v := nI (8)) dX8_evening_50 (by decide) ?_
  refine ce_irem (z := nI ((R) % (8))) dX8_evening_52 (nI_ne0 (by omega) (by omega)) (pk_rem (by omega) (by omega) (by omega)) ?_
  refine ce_iconst (v := nI (5)) dX8_evening_53 (by decide) ?_
  refine ce_icmp_geN (tgt := 85) dX8_evening_54 (by decide) rfl rfl (by omega) (by omega) (fun c_54 => ?_) (fun c_54 => ?_)
  · refine ce_iload_n dX8_evening_85 rfl ?_
    refine ce_bipush (v := nI (8)) dX8_evening_86 (by decide) ?_
    refine ce_irem (z := nI ((R) % (8))) dX8_evening_88 (nI_ne0 (by omega) (by omega)) (pk_rem (by omega) (by omega) (by omega)) ?_
    refine ce_iconst (v := nI (5)) dX8_evening_89 (by decide) ?_
    refine ce_icmp_neN (tgt := 119) dX8_evening_90 (by decide) rfl rfl (by omega) (by omega) (fun c_90 => ?_) (fun c_90 => ?_)
    · refine ce_iload_n dX8_evening_119 rfl ?_
      refine ce_bipush (v := nI (8)) dX8_evening_120 (by decide) ?_
      refine ce_irem (z := nI ((R) % (8))) dX8_evening_122 (nI_ne0 (by omega) (by omega)) (pk_rem (by omega) (by omega) (by omega)) ?_
      refine ce_iconst (v := nI (5)) dX8_evening_123 (by decide) ?_
      refine ce_icmp_leN (tgt := 158) dX8_evening_124 (by decide) rfl rfl (by omega) (by omega) (fun c_124 => ?_) (fun c_124 => ?_)
      · have eF : ¬ ke_f K R = 0 := fun q0 => by
          unfold ke_f at q0
          rw [if_neg (by omega), hm3, hw3, ho3] at q0
          by_cases r1 : R % 8 < 5
          · rw [if_pos r1] at q0; have q1 := (kv_driI (by omega) (by omega) (by omega)).mp q0; omega
          · rw [if_neg r1] at q0
            by_cases r2 : R % 8 = 5
            · rw [if_pos r2] at q0; have q1 := (kv_corI (by omega) (by omega)).mp q0; omega
            · rw [if_neg r2] at q0; have q1 := (kv_gifI (by omega) (by omega) (by omega) (by omega)).mp q0; omega
        rw [show kx_eK K R = K from if_neg eF, show kx_eO K O R = O from if_neg eF]
        exact ce_vret dX8_evening_158 rfl (by decide) (by decide) ⟨rfl, rfl, hr, fun _ _ _ => rfl⟩
      · refine ce_iload dX8_evening_127 rfl ?_
        refine ce_iload_n dX8_evening_129 rfl ?_
        refine ce_icmp_eqN (tgt := 158) dX8_evening_130 (by decide) rfl rfl (by omega) (by omega) (fun c_130 => ?_) (fun c_130 => ?_)
        · have eF : ¬ ke_f K R = 0 := fun q0 => by
            unfold ke_f at q0
            rw [if_neg (by omega), hm3, hw3, ho3] at q0
            by_cases r1 : R % 8 < 5
            · rw [if_pos r1] at q0; have q1 := (kv_driI (by omega) (by omega) (by omega)).mp q0; omega
            · rw [if_neg r1] at q0
              by_cases r2 : R % 8 = 5
              · rw [if_pos r2] at q0; have q1 := (kv_corI (by omega) (by omega)).mp q0; omega
              · rw [if_neg r2] at q0; have q1 := (kv_gifI (by omega) (by omega) (by omega) (by omega)).mp q0; omega
          rw [show kx_eK K R = K from if_neg eF, show kx_eO K O R = O from if_neg eF]
          exact ce_vret dX8_evening_158 rfl (by decide) (by decide) ⟨rfl, rfl, hr, fun _ _ _ => rfl⟩
        · refine ce_aload_n dX8_evening_133 rfl ?_
          refine ce_getR dX8_evening_134 fRX8_19 hD.1 hD.2.1.2.2.2.1 ?_
          refine ce_iload_n dX8_evening_137 rfl ?_
          refine ce_iload_n dX8_evening_138 rfl ?_
          refine ce_iconst (v := nI (1)) dX8_evening_139 (by decide) ?_
          refine ce_cSp dX8_evening_140 hX8_owns kRX8_241 (n_owns ⟨(hD.2.2.2.2.2.1).1, (hD.2.2.2.2.2.1).2⟩ hk hr (m) (w) (1) (by omega) (by omega) (by omega)) rfl rfl (by decide) (Nat.le_of_ble_eq_true rfl) ?_
          refine ce_if_eqB (tgt := 158) dX8_evening_143 (by decide) rfl (fun c_143 => ?_) (fun c_143 => ?_)
          · have eF : ¬ ke_f K R = 0 := fun q0 => by
              unfold ke_f at q0
              rw [if_neg (by omega), hm3, hw3, ho3] at q0
              by_cases r1 : R % 8 < 5
              · rw [if_pos r1] at q0; have q1 := (kv_driI (by omega) (by omega) (by omega)).mp q0; omega
              · rw [if_neg r1] at q0
                by_cases r2 : R % 8 = 5
                · rw [if_pos r2] at q0; have q1 := (kv_corI (by omega) (by omega)).mp q0; omega
                · rw [if_neg r2] at q0; have q1 := (kv_gifI (by omega) (by omega) (by omega) (by omega)).mp q0; omega
            rw [show kx_eK K R = K from if_neg eF, show kx_eO K O R = O from if_neg eF]
            exact ce_vret dX8_evening_158 rfl (by decide) (by decide) ⟨rfl, rfl, hr, fun _ _ _ => rfl⟩
          · refine ce_aload_n dX8_evening_146 rfl ?_
            refine ce_getR dX8_evening_147 fRX8_19 hD.1 hD.2.1.2.2.2.1 ?_
            refine ce_iload_n dX8_evening_150 rfl ?_
            refine ce_iload dX8_evening_151 rfl ?_
            refine ce_iload_n dX8_evening_153 rfl ?_
            refine ce_iconst (v := nI (1)) dX8_evening_154 (by decide) ?_
            refine ce_cSu dX8_evening_155 hX8_goGive kRX8_217 (n_goGive ⟨(hD.2.2.2.2.2.1).1, (hD.2.2.2.2.2.1).2⟩ hr (m) (o) (w) (1) (by omega) (by omega) (by omega) (by omega) (by omega)) rfl rfl (by decide) (Nat.le_of_ble_eq_true rfl) (fun cg1 hcg1 => ?_)
            have eF : ke_f K R = 0 := by
              unfold ke_f
              rw [if_neg (by omega), hm3, hw3, ho3]
              rw [if_neg (show ¬ R % 8 < 5 by omega), if_neg (show ¬ R % 8 = 5 by omega)]
              exact (kv_gifI (by omega) (by omega) (by omega) (by omega)).mpr (by omega)
            have eK : kx_eK K R = kv_han K m o w 1 := by
              rw [show kx_eK K R = ke_K K R from if_pos eF]
              unfold ke_K
              rw [hm3, hw3, ho3]
              rw [if_neg (show ¬ R % 8 < 5 by omega), if_neg (show ¬ R % 8 = 5 by omega)]
            have eO : kx_eO K O R = O := by
              rw [show kx_eO K O R = ke_O K O R from if_pos eF]
              unfold ke_O
              rw [if_neg (show ¬ R % 8 = 5 by omega)]
            rw [eK, eO]
            exact ce_vret dX8_evening_158 rfl (by decide) (by decide) ⟨rfl, rfl, hcg1.1, (fun x h4 h8 => hcg1.2 x h4)⟩
    · refine ce_aload_n dX8_evening_93 rfl ?_
      refine ce_getR dX8_evening_94 fRX8_19 hD.1 hD.2.1.2.2.2.1 ?_
      refine ce_iload_n dX8_evening_97 rfl ?_
      refine ce_iload_n dX8_evening_98 rfl ?_
      refine ce_iconst (v := nI (1)) dX8_evening_99 (by decide) ?_
      refine ce_cSp dX8_evening_100 hX8_owns kRX8_241 (n_owns ⟨(hD.2.2.2.2.2.1).1, (hD.2.2.2.2.2.1).2⟩ hk hr (m) (w) (1) (by omega) (by omega) (by omega)) rfl rfl (by decide) (Nat.le_of_ble_eq_true rfl) ?_
      refine ce_if_eqB (tgt := 119) dX8_evening_103 (by decide) rfl (fun c_103 => ?_) (fun c_103 => ?_)
      · refine ce_iload_n dX8_evening_119 rfl ?_
        refine ce_bipush (v := nI (8)) dX8_evening_120 (by decide) ?_
        refine ce_irem (z := nI ((R) % (8))) dX8_evening_122 (nI_ne0 (by omega) (by omega)) (pk_rem (by omega) (by omega) (by omega)) ?_
        refine ce_iconst (v := nI (5)) dX8_evening_123 (by decide) ?_
        refine ce_icmp_leN (tgt := 158) dX8_evening_124 (by decide) rfl rfl (by omega) (by omega) (fun c_124 => ?_) (fun c_124 => ?_)
        · have eF : ¬ ke_f K R = 0 := fun q0 => by
            unfold ke_f at q0
            rw [if_neg (by omega), hm3, hw3, ho3] at q0
            by_cases r1 : R % 8 < 5
            · rw [if_pos r1] at q0; have q1 := (kv_driI (by omega) (by omega) (by omega)).mp q0; omega
            · rw [if_neg r1] at q0
              by_cases r2 : R % 8 = 5
              · rw [if_pos r2] at q0; have q1 := (kv_corI (by omega) (by omega)).mp q0; omega
              · rw [if_neg r2] at q0; have q1 := (kv_gifI (by omega) (by omega) (by omega) (by omega)).mp q0; omega
          rw [show kx_eK K R = K from if_neg eF, show kx_eO K O R = O from if_neg eF]
          exact ce_vret dX8_evening_158 rfl (by decide) (by decide) ⟨rfl, rfl, hr, fun _ _ _ => rfl⟩
        · refine ce_iload dX8_evening_127 rfl ?_
          refine ce_iload_n dX8_evening_129 rfl ?_
          refine ce_icmp_eqN (tgt := 158) dX8_evening_130 (by decide) rfl rfl (by omega) (by omega) (fun c_130 => ?_) (fun c_130 => ?_)
          · have eF : ¬ ke_f K R = 0 := fun q0 => by
              unfold ke_f at q0
              rw [if_neg (by omega), hm3, hw3, ho3] at q0
              by_cases r1 : R % 8 < 5
              · rw [if_pos r1] at q0; have q1 := (kv_driI (by omega) (by omega) (by omega)).mp q0; omega
              · rw [if_neg r1] at q0
                by_cases r2 : R % 8 = 5
                · rw [if_pos r2] at q0; have q1 := (kv_corI (by omega) (by omega)).mp q0; omega
                · rw [if_neg r2] at q0; have q1 := (kv_gifI (by omega) (by omega) (by omega) (by omega)).mp q0; omega
            rw [show kx_eK K R = K from if_neg eF, show kx_eO K O R = O from if_neg eF]
            exact ce_vret dX8_evening_158 rfl (by decide) (by decide) ⟨rfl, rfl, hr, fun _ _ _ => rfl⟩
          · refine ce_aload_n dX8_evening_133 rfl ?_
            refine ce_getR dX8_evening_134 fRX8_19 hD.1 hD.2.1.2.2.2.1 ?_
            refine ce_iload_n dX8_evening_137 rfl ?_
            refine ce_iload_n dX8_evening_138 rfl ?_
            refine ce_iconst (v := nI (1)) dX8_evening_139 (by decide) ?_
            refine ce_cSp dX8_evening_140 hX8_owns kRX8_241 (n_owns ⟨(hD.2.2.2.2.2.1).1, (hD.2.2.2.2.2.1).2⟩ hk hr (m) (w) (1) (by omega) (by omega) (by omega)) rfl rfl (by decide) (Nat.le_of_ble_eq_true rfl) ?_
            refine ce_if_eqB (tgt := 158) dX8_evening_143 (by decide) rfl (fun c_143 => ?_) (fun c_143 => ?_)
            · have eF : ¬ ke_f K R = 0 := fun q0 => by
                unfold ke_f at q0
                rw [if_neg (by omega), hm3, hw3, ho3] at q0
                by_cases r1 : R % 8 < 5
                · rw [if_pos r1] at q0; have q1 := (kv_driI (by omega) (by omega) (by omega)).mp q0; omega
                · rw [if_neg r1] at q0
                  by_cases r2 : R % 8 = 5
                  · rw [if_pos r2] at q0; have q1 := (kv_corI (by omega) (by omega)).mp q0; omega
                  · rw [if_neg r2] at q0; have q1 := (kv_gifI (by omega) (by omega) (by omega) (by omega)).mp q0; omega
              rw [show kx_eK K R = K from if_neg eF, show kx_eO K O R = O from if_neg eF]
              exact ce_vret dX8_evening_158 rfl (by decide) (by decide) ⟨rfl, rfl, hr, fun _ _ _ => rfl⟩
            · refine ce_aload_n dX8_evening_146 rfl ?_
              refine ce_getR dX8_evening_147 fRX8_19 hD.1 hD.2.1.2.2.2.1 ?_
              refine ce_iload_n dX8_evening_150 rfl ?_
              refine ce_iload dX8_evening_151 rfl ?_
              refine ce_iload_n dX8_evening_153 rfl ?_
              refine ce_iconst (v := nI (1)) dX8_evening_154 (by decide) ?_
              refine ce_cSu dX8_evening_155 hX8_goGive kRX8_217 (n_goGive ⟨(hD.2.2.2.2.2.1).1, (hD.2.2.2.2.2.1).2⟩ hr (m) (o) (w) (1) (by omega) (by omega) (by omega) (by omega) (by omega)) rfl rfl (by decide) (Nat.le_of_ble_eq_true rfl) (fun cg1 hcg1 => ?_)
              have eF : ke_f K R = 0 := by
                unfold ke_f
                rw [if_neg (by omega), hm3, hw3, ho3]
                rw [if_neg (show ¬ R % 8 < 5 by omega), if_neg (show ¬ R % 8 = 5 by omega)]
                exact (kv_gifI (by omega) (by omega) (by omega) (by omega)).mpr (by omega)
              have eK : kx_eK K R = kv_han K m o w 1 := by
                rw [show kx_eK K R = ke_K K R from if_pos eF]
                unfold ke_K
                rw [hm3, hw3, ho3]
                rw [if_neg (show ¬ R % 8 < 5 by omega), if_neg (show ¬ R % 8 = 5 by omega)]
              have eO : kx_eO K O R = O := by
                rw [show kx_eO K O R = ke_O K O R from if_pos eF]
                unfold ke_O
                rw [if_neg (show ¬ R % 8 = 5 by omega)]
              rw [eK, eO]
              exact ce_vret dX8_evening_158 rfl (by decide) (by decide) ⟨rfl, rfl, hcg1.1, (fun x h4 h8 => hcg1.2 x h4)⟩
      · refine ce_aload_n dX8_evening_106 rfl ?_
        refine ce_getR dX8_evening_107 fRX8_19 hD.1 hD.2.1.2.2.2.1 ?_
        refine ce_iload_n dX8_evening_110 rfl ?_
        refine ce_iload_n dX8_evening_111 rfl ?_
        refine ce_cSr dX8_evening_112 hX8_goCork kRX8_221 (n_goCork ⟨(hD.2.2.2.2.2.1).1, (hD.2.2.2.2.2.1).2⟩ hk hr (m) (w) (by omega) (by omega) (by omega)) rfl rfl (by decide) (Nat.le_of_ble_eq_true rfl) (fun rcg1 cg1 hcg1 => ?_)
        refine ce_pop dX8_evening_115 rfl ?_
        refine ce_goto (tgt := 158) dX8_evening_116 (by decide) ?_
        have eF : ke_f K R = 0 := by
          unfold ke_f
          rw [if_neg (by omega), hm3, hw3, ho3]
          rw [if_neg (show ¬ R % 8 < 5 by omega), if_pos (show R % 8 = 5 by omega)]
          exact (kv_corI (by omega) (by omega)).mpr (by omega)
        have eK : kx_eK K R = kv_cor K m w := by
          rw [show kx_eK K R = ke_K K R from if_pos eF]
          unfold ke_K
          rw [hm3, hw3, ho3]
          rw [if_neg (show ¬ R % 8 < 5 by omega), if_pos (show R % 8 = 5 by omega)]
        have eO : kx_eO K O R = ko_cor K m w O := by
          rw [show kx_eO K O R = ke_O K O R from if_pos eF]
          unfold ke_O
          rw [hm3, hw3, if_pos (show R % 8 = 5 by omega)]
        rw [eK, eO]
        exact ce_vret dX8_evening_158 rfl (by decide) (by decide) ⟨rfl, rfl, hcg1.2.1, (fun x h4 h8 => hcg1.2.2 x h4)⟩
  · refine ce_aload_n dX8_evening_57 rfl ?_
    refine ce_getR dX8_evening_58 fRX8_19 hD.1 hD.2.1.2.2.2.1 ?_
    refine ce_iload_n dX8_evening_61 rfl ?_
    refine ce_iload_n dX8_evening_62 rfl ?_
    refine ce_iload dX8_evening_63 rfl ?_
    refine ce_cSp dX8_evening_65 hX8_owns kRX8_241 (n_owns ⟨(hD.2.2.2.2.2.1).1, (hD.2.2.2.2.2.1).2⟩ hk hr (m) (w) (1 + (((R) / (1024)) % (3))) (by omega) (by omega) (by omega)) rfl rfl (by decide) (Nat.le_of_ble_eq_true rfl) ?_
    refine ce_if_eqB (tgt := 85) dX8_evening_68 (by decide) rfl (fun c_68 => ?_) (fun c_68 => ?_)
    · refine ce_iload_n dX8_evening_85 rfl ?_
      refine ce_bipush (v := nI (8)) dX8_evening_86 (by decide) ?_
      refine ce_irem (z := nI ((R) % (8))) dX8_evening_88 (nI_ne0 (by omega) (by omega)) (pk_rem (by omega) (by omega) (by omega)) ?_
      refine ce_iconst (v := nI (5)) dX8_evening_89 (by decide) ?_
      refine ce_icmp_neN (tgt := 119) dX8_evening_90 (by decide) rfl rfl (by omega) (by omega) (fun c_90 => ?_) (fun c_90 => ?_)
      · refine ce_iload_n dX8_evening_119 rfl ?_
        refine ce_bipush (v := nI (8)) dX8_evening_120 (by decide) ?_
        refine ce_irem (z := nI ((R) % (8))) dX8_evening_122 (nI_ne0 (by omega) (by omega)) (pk_rem (by omega) (by omega) (by omega)) ?_
        refine ce_iconst (v := nI (5)) dX8_evening_123 (by decide) ?_
        refine ce_icmp_leN (tgt := 158) dX8_evening_124 (by decide) rfl rfl (by omega) (by omega) (fun c_124 => ?_) (fun c_124 => ?_)
        · have eF : ¬ ke_f K R = 0 := fun q0 => by
            unfold ke_f at q0
            rw [if_neg (by omega), hm3, hw3, ho3] at q0
            by_cases r1 : R % 8 < 5
            · rw [if_pos r1] at q0; have q1 := (kv_driI (by omega) (by omega) (by omega)).mp q0; omega
            · rw [if_neg r1] at q0
              by_cases r2 : R % 8 = 5
              · rw [if_pos r2] at q0; have q1 := (kv_corI (by omega) (by omega)).mp q0; omega
              · rw [if_neg r2] at q0; have q1 := (kv_gifI (by omega) (by omega) (by omega) (by omega)).mp q0; omega
          rw [show kx_eK K R = K from if_neg eF, show kx_eO K O R = O from if_neg eF]
          exact ce_vret dX8_evening_158 rfl (by decide) (by decide) ⟨rfl, rfl, hr, fun _ _ _ => rfl⟩
        · refine ce_iload dX8_evening_127 rfl ?_
          refine ce_iload_n dX8_evening_129 rfl ?_
          refine ce_icmp_eqN (tgt := 158) dX8_evening_130 (by decide) rfl rfl (by omega) (by omega) (fun c_130 => ?_) (fun c_130 => ?_)
          · have eF : ¬ ke_f K R = 0 := fun q0 => by
              unfold ke_f at q0
              rw [if_neg (by omega), hm3, hw3, ho3] at q0
              by_cases r1 : R % 8 < 5
              · rw [if_pos r1] at q0; have q1 := (kv_driI (by omega) (by omega) (by omega)).mp q0; omega
              · rw [if_neg r1] at q0
                by_cases r2 : R % 8 = 5
                · rw [if_pos r2] at q0; have q1 := (kv_corI (by omega) (by omega)).mp q0; omega
                · rw [if_neg r2] at q0; have q1 := (kv_gifI (by omega) (by omega) (by omega) (by omega)).mp q0; omega
            rw [show kx_eK K R = K from if_neg eF, show kx_eO K O R = O from if_neg eF]
            exact ce_vret dX8_evening_158 rfl (by decide) (by decide) ⟨rfl, rfl, hr, fun _ _ _ => rfl⟩
          · refine ce_aload_n dX8_evening_133 rfl ?_
            refine ce_getR dX8_evening_134 fRX8_19 hD.1 hD.2.1.2.2.2.1 ?_
            refine ce_iload_n dX8_evening_137 rfl ?_
            refine ce_iload_n dX8_evening_138 rfl ?_
            refine ce_iconst (v := nI (1)) dX8_evening_139 (by decide) ?_
            refine ce_cSp dX8_evening_140 hX8_owns kRX8_241 (n_owns ⟨(hD.2.2.2.2.2.1).1, (hD.2.2.2.2.2.1).2⟩ hk hr (m) (w) (1) (by omega) (by omega) (by omega)) rfl rfl (by decide) (Nat.le_of_ble_eq_true rfl) ?_
            refine ce_if_eqB (tgt := 158) dX8_evening_143 (by decide) rfl (fun c_143 => ?_) (fun c_143 => ?_)
            · have eF : ¬ ke_f K R = 0 := fun q0 => by
                unfold ke_f at q0
                rw [if_neg (by omega), hm3, hw3, ho3] at q0
                by_cases r1 : R % 8 < 5
                · rw [if_pos r1] at q0; have q1 := (kv_driI (by omega) (by omega) (by omega)).mp q0; omega
                · rw [if_neg r1] at q0
                  by_cases r2 : R % 8 = 5
                  · rw [if_pos r2] at q0; have q1 := (kv_corI (by omega) (by omega)).mp q0; omega
                  · rw [if_neg r2] at q0; have q1 := (kv_gifI (by omega) (by omega) (by omega) (by omega)).mp q0; omega
              rw [show kx_eK K R = K from if_neg eF, show kx_eO K O R = O from if_neg eF]
              exact ce_vret dX8_evening_158 rfl (by decide) (by decide) ⟨rfl, rfl, hr, fun _ _ _ => rfl⟩
            · refine ce_aload_n dX8_evening_146 rfl ?_
              refine ce_getR dX8_evening_147 fRX8_19 hD.1 hD.2.1.2.2.2.1 ?_
              refine ce_iload_n dX8_evening_150 rfl ?_
              refine ce_iload dX8_evening_151 rfl ?_
              refine ce_iload_n dX8_evening_153 rfl ?_
              refine ce_iconst (v := nI (1)) dX8_evening_154 (by decide) ?_
              refine ce_cSu dX8_evening_155 hX8_goGive kRX8_217 (n_goGive ⟨(hD.2.2.2.2.2.1).1, (hD.2.2.2.2.2.1).2⟩ hr (m) (o) (w) (1) (by omega) (by omega) (by omega) (by omega) (by omega)) rfl rfl (by decide) (Nat.le_of_ble_eq_true rfl) (fun cg1 hcg1 => ?_)
              have eF : ke_f K R = 0 := by
                unfold ke_f
                rw [if_neg (by omega), hm3, hw3, ho3]
                rw [if_neg (show ¬ R % 8 < 5 by omega), if_neg (show ¬ R % 8 = 5 by omega)]
                exact (kv_gifI (by omega) (by omega) (by omega) (by omega)).mpr (by omega)
              have eK : kx_eK K R = kv_han K m o w 1 := by
                rw [show kx_eK K R = ke_K K R from if_pos eF]
                unfold ke_K
                rw [hm3, hw3, ho3]
                rw [if_neg (show ¬ R % 8 < 5 by omega), if_neg (show ¬ R % 8 = 5 by omega)]
              have eO : kx_eO K O R = O := by
                rw [show kx_eO K O R = ke_O K O R from if_pos eF]
                unfold ke_O
                rw [if_neg (show ¬ R % 8 = 5 by omega)]
              rw [eK, eO]
              exact ce_vret dX8_evening_158 rfl (by decide) (by decide) ⟨rfl, rfl, hcg1.1, (fun x h4 h8 => hcg1.2 x h4)⟩
      · refine ce_aload_n dX8_evening_93 rfl ?_
        refine ce_getR dX8_evening_94 fRX8_19 hD.1 hD.2.1.2.2.2.1 ?_
        refine ce_iload_n dX8_evening_97 rfl ?_
        refine ce_iload_n dX8_evening_98 rfl ?_
        refine ce_iconst (v := nI (1)) dX8_evening_99 (by decide) ?_
        refine ce_cSp dX8_evening_100 hX8_owns kRX8_241 (n_owns ⟨(hD.2.2.2.2.2.1).1, (hD.2.2.2.2.2.1).2⟩ hk hr (m) (w) (1) (by omega) (by omega) (by omega)) rfl rfl (by decide) (Nat.le_of_ble_eq_true rfl) ?_
        refine ce_if_eqB (tgt := 119) dX8_evening_103 (by decide) rfl (fun c_103 => ?_) (fun c_103 => ?_)
        · refine ce_iload_n dX8_evening_119 rfl ?_
          refine ce_bipush (v := nI (8)) dX8_evening_120 (by decide) ?_
          refine ce_irem (z := nI ((R) % (8))) dX8_evening_122 (nI_ne0 (by omega) (by omega)) (pk_rem (by omega) (by omega) (by omega)) ?_
          refine ce_iconst (v := nI (5)) dX8_evening_123 (by decide) ?_
          refine ce_icmp_leN (tgt := 158) dX8_evening_124 (by decide) rfl rfl (by omega) (by omega) (fun c_124 => ?_) (fun c_124 => ?_)
          · have eF : ¬ ke_f K R = 0 := fun q0 => by
              unfold ke_f at q0
              rw [if_neg (by omega), hm3, hw3, ho3] at q0
              by_cases r1 : R % 8 < 5
              · rw [if_pos r1] at q0; have q1 := (kv_driI (by omega) (by omega) (by omega)).mp q0; omega
              · rw [if_neg r1] at q0
                by_cases r2 : R % 8 = 5
                · rw [if_pos r2] at q0; have q1 := (kv_corI (by omega) (by omega)).mp q0; omega
                · rw [if_neg r2] at q0; have q1 := (kv_gifI (by omega) (by omega) (by omega) (by omega)).mp q0; omega
            rw [show kx_eK K R = K from if_neg eF, show kx_eO K O R = O from if_neg eF]
            exact ce_vret dX8_evening_158 rfl (by decide) (by decide) ⟨rfl, rfl, hr, fun _ _ _ => rfl⟩
          · refine ce_iload dX8_evening_127 rfl ?_
            refine ce_iload_n dX8_evening_129 rfl ?_
            refine ce_icmp_eqN (tgt := 158) dX8_evening_130 (by decide) rfl rfl (by omega) (by omega) (fun c_130 => ?_) (fun c_130 => ?_)
            · have eF : ¬ ke_f K R = 0 := fun q0 => by
                unfold ke_f at q0
                rw [if_neg (by omega), hm3, hw3, ho3] at q0
                by_cases r1 : R % 8 < 5
                · rw [if_pos r1] at q0; have q1 := (kv_driI (by omega) (by omega) (by omega)).mp q0; omega
                · rw [if_neg r1] at q0
                  by_cases r2 : R % 8 = 5
                  · rw [if_pos r2] at q0; have q1 := (kv_corI (by omega) (by omega)).mp q0; omega
                  · rw [if_neg r2] at q0; have q1 := (kv_gifI (by omega) (by omega) (by omega) (by omega)).mp q0; omega
              rw [show kx_eK K R = K from if_neg eF, show kx_eO K O R = O from if_neg eF]
              exact ce_vret dX8_evening_158 rfl (by decide) (by decide) ⟨rfl, rfl, hr, fun _ _ _ => rfl⟩
            · refine ce_aload_n dX8_evening_133 rfl ?_
              refine ce_getR dX8_evening_134 fRX8_19 hD.1 hD.2.1.2.2.2.1 ?_
              refine ce_iload_n dX8_evening_137 rfl ?_
              refine ce_iload_n dX8_evening_138 rfl ?_
              refine ce_iconst (v := nI (1)) dX8_evening_139 (by decide) ?_
              refine ce_cSp dX8_evening_140 hX8_owns kRX8_241 (n_owns ⟨(hD.2.2.2.2.2.1).1, (hD.2.2.2.2.2.1).2⟩ hk hr (m) (w) (1) (by omega) (by omega) (by omega)) rfl rfl (by decide) (Nat.le_of_ble_eq_true rfl) ?_
              refine ce_if_eqB (tgt := 158) dX8_evening_143 (by decide) rfl (fun c_143 => ?_) (fun c_143 => ?_)
              · have eF : ¬ ke_f K R = 0 := fun q0 => by
                  unfold ke_f at q0
                  rw [if_neg (by omega), hm3, hw3, ho3] at q0
                  by_cases r1 : R % 8 < 5
                  · rw [if_pos r1] at q0; have q1 := (kv_driI (by omega) (by omega) (by omega)).mp q0; omega
                  · rw [if_neg r1] at q0
                    by_cases r2 : R % 8 = 5
                    · rw [if_pos r2] at q0; have q1 := (kv_corI (by omega) (by omega)).mp q0; omega
                    · rw [if_neg r2] at q0; have q1 := (kv_gifI (by omega) (by omega) (by omega) (by omega)).mp q0; omega
                rw [show kx_eK K R = K from if_neg eF, show kx_eO K O R = O from if_neg eF]
                exact ce_vret dX8_evening_158 rfl (by decide) (by decide) ⟨rfl, rfl, hr, fun _ _ _ => rfl⟩
              · refine ce_aload_n dX8_evening_146 rfl ?_
                refine ce_getR dX8_evening_147 fRX8_19 hD.1 hD.2.1.2.2.2.1 ?_
                refine ce_iload_n dX8_evening_150 rfl ?_
                refine ce_iload dX8_evening_151 rfl ?_
                refine ce_iload_n dX8_evening_153 rfl ?_
                refine ce_iconst (v := nI (1)) dX8_evening_154 (by decide) ?_
                refine ce_cSu dX8_evening_155 hX8_goGive kRX8_217 (n_goGive ⟨(hD.2.2.2.2.2.1).1, (hD.2.2.2.2.2.1).2⟩ hr (m) (o) (w) (1) (by omega) (by omega) (by omega) (by omega) (by omega)) rfl rfl (by decide) (Nat.le_of_ble_eq_true rfl) (fun cg1 hcg1 => ?_)
                have eF : ke_f K R = 0 := by
                  unfold ke_f
                  rw [if_neg (by omega), hm3, hw3, ho3]
                  rw [if_neg (show ¬ R % 8 < 5 by omega), if_neg (show ¬ R % 8 = 5 by omega)]
                  exact (kv_gifI (by omega) (by omega) (by omega) (by omega)).mpr (by omega)
                have eK : kx_eK K R = kv_han K m o w 1 := by
                  rw [show kx_eK K R = ke_K K R from if_pos eF]
                  unfold ke_K
                  rw [hm3, hw3, ho3]
                  rw [if_neg (show ¬ R % 8 < 5 by omega), if_neg (show ¬ R % 8 = 5 by omega)]
                have eO : kx_eO K O R = O := by
                  rw [show kx_eO K O R = ke_O K O R from if_pos eF]
                  unfold ke_O
                  rw [if_neg (show ¬ R % 8 = 5 by omega)]
                rw [eK, eO]
                exact ce_vret dX8_evening_158 rfl (by decide) (by decide) ⟨rfl, rfl, hcg1.1, (fun x h4 h8 => hcg1.2 x h4)⟩
        · refine ce_aload_n dX8_evening_106 rfl ?_
          refine ce_getR dX8_evening_107 fRX8_19 hD.1 hD.2.1.2.2.2.1 ?_
          refine ce_iload_n dX8_evening_110 rfl ?_
          refine ce_iload_n dX8_evening_111 rfl ?_
          refine ce_cSr dX8_evening_112 hX8_goCork kRX8_221 (n_goCork ⟨(hD.2.2.2.2.2.1).1, (hD.2.2.2.2.2.1).2⟩ hk hr (m) (w) (by omega) (by omega) (by omega)) rfl rfl (by decide) (Nat.le_of_ble_eq_true rfl) (fun rcg1 cg1 hcg1 => ?_)
          refine ce_pop dX8_evening_115 rfl ?_
          refine ce_goto (tgt := 158) dX8_evening_116 (by decide) ?_
          have eF : ke_f K R = 0 := by
            unfold ke_f
            rw [if_neg (by omega), hm3, hw3, ho3]
            rw [if_neg (show ¬ R % 8 < 5 by omega), if_pos (show R % 8 = 5 by omega)]
            exact (kv_corI (by omega) (by omega)).mpr (by omega)
          have eK : kx_eK K R = kv_cor K m w := by
            rw [show kx_eK K R = ke_K K R from if_pos eF]
            unfold ke_K
            rw [hm3, hw3, ho3]
            rw [if_neg (show ¬ R % 8 < 5 by omega), if_pos (show R % 8 = 5 by omega)]
          have eO : kx_eO K O R = ko_cor K m w O := by
            rw [show kx_eO K O R = ke_O K O R from if_pos eF]
            unfold ke_O
            rw [hm3, hw3, if_pos (show R % 8 = 5 by omega)]
          rw [eK, eO]
          exact ce_vret dX8_evening_158 rfl (by decide) (by decide) ⟨rfl, rfl, hcg1.2.1, (fun x h4 h8 => hcg1.2.2 x h4)⟩
    · refine ce_aload_n dX8_evening_71 rfl ?_
      refine ce_getR dX8_evening_72 fRX8_19 hD.1 hD.2.1.2.2.2.1 ?_
      refine ce_iload_n dX8_evening_75 rfl ?_
      refine ce_iload_n dX8_evening_76 rfl ?_
      refine ce_iload dX8_evening_77 rfl ?_
      refine ce_cSu dX8_evening_79 hX8_goDrink kRX8_213 (n_goDrink ⟨(hD.2.2.2.2.2.1).1, (hD.2.2.2.2.2.1).2⟩ hk hr (m) (w) (1 + (((R) / (1024)) % (3))) (by omega) (by omega) (by omega) (by omega)) rfl rfl (by decide) (Nat.le_of_ble_eq_true rfl) (fun cg1 hcg1 => ?_)
      refine ce_goto (tgt := 158) dX8_evening_82 (by decide) ?_
      have eF : ke_f K R = 0 := by
        unfold ke_f
        rw [if_neg (by omega), hm3, hw3, ho3]
        rw [if_pos (show R % 8 < 5 by omega)]
        exact (kv_driI (by omega) (by omega) (by omega)).mpr (by omega)
      have eK : kx_eK K R = kv_dri K m w (1 + (((R) / (1024)) % (3))) := by
        rw [show kx_eK K R = ke_K K R from if_pos eF]
        unfold ke_K
        rw [hm3, hw3, ho3]
        rw [if_pos (show R % 8 < 5 by omega)]
      have eO : kx_eO K O R = O := by
        rw [show kx_eO K O R = ke_O K O R from if_pos eF]
        unfold ke_O
        rw [if_neg (show ¬ R % 8 = 5 by omega)]
      rw [eK, eO]
      exact ce_vret dX8_evening_158 rfl (by decide) (by decide) ⟨rfl, rfl, hcg1.1, (fun x h4 h8 => hcg1.2 x h4)⟩
set_option maxHeartbeats 2000000 in
set_option maxRecDepth 20000 in
theorem m_X8_begin {σ : ce_S} {g : ce_D} (d : Nat) (K : ce_V) (O : Nat → Int32) (hD : ce_LM σ d) (hr : cr_row (g (d + 3)) (kq K) O) : ce_CT (ce_r 1) mX8_begin [.ref (d)] σ g (ce_uv σ (fun g1 => cr_row (g1 (d + 4)) (kq K) O ∧ ∀ x, x ≠ d + 4 → g1 x = g x)) ce_no := by
  refine ce_enter (by decide) rfl (Nat.le_of_ble_eq_true rfl) (L := [some (.ref (d))]) rfl ?_
  refine ce_aload_n dX8_begin_0 rfl ?_
  refine ce_getR dX8_begin_1 fRX8_16 hD.1 hD.2.1.2.2.1 ?_
  refine ce_iconst (v := nI (0)) dX8_begin_4 (by decide) ?_
  refine ce_aload_n dX8_begin_5 rfl ?_
  refine ce_getR dX8_begin_6 fRX8_19 hD.1 hD.2.1.2.2.2.1 ?_
  refine ce_iconst (v := nI (0)) dX8_begin_9 (by decide) ?_
  refine ce_sipush (v := nI (189)) dX8_begin_10 (by decide) ?_
  refine ce_cSu dX8_begin_13 hX8_copy kRX8_50 (m_X8_copy (d + 3) 0 (d + 4) 0 189 189 189 ⟨(hD.2.2.2.2.1).1, (hD.2.2.2.2.1).2⟩ ⟨(hD.2.2.2.2.2.1).1, (hD.2.2.2.2.2.1).2⟩ (by omega) (by omega) (by omega) (by omega)) rfl rfl (by decide) (Nat.le_of_ble_eq_true rfl) (fun cg1 hcg1 => ?_)
  exact ce_vret dX8_begin_16 rfl (by decide) (by decide) ⟨rfl, rfl, by rw [hcg1]; exact hr.eq (fun i hi => by rw [ce_mv_in (by omega), Nat.zero_add, Nat.sub_zero]), fun x hx => by rw [hcg1, ce_mv_ne hx]⟩
/-- the row that is remembered -/
theorem cr_mv {g : ce_D} {s p t q : Nat} {F : ce_V} {O : Nat → Int32} (h : cr_row (fun j => g s (p + j)) F O) : cr_row (fun j => ce_mv g s p t q 189 t (q + j)) F O := h.eq (fun i hi => by show ce_mv g s p t q 189 t (q + i) = g s (p + i); rw [ce_mv_in (by omega), Nat.add_sub_cancel_left])
set_option maxHeartbeats 2000000 in
set_option maxRecDepth 20000 in
theorem m_X8_remember_full {σ : ce_S} {g : ce_D} (d : Nat) (S : ks_S) (hD : ce_LM σ d) (hr : ce_rM g d S) (hs : sn S = 14) : ce_CT (ce_r 1) mX8_remember [.ref (d)] σ g (ce_uv σ (fun g1 => (g1 d 9 = nI (kh_n (sn S)) ∧ ∀ i, i < kh_n (sn S) → cr_row (fun j => g1 (d + 5) (189 * i + j)) (kq (kh_f (sn S) (sKH S) (sK S) i)) (kh_f (sn S) (sOH S) (sO S) i)) ∧ (∀ k, k ≠ 9 → g1 d k = g d k) ∧ ∀ x, x ≠ d → x ≠ d + 5 → g1 x = g x)) ce_no := by
  have h14 : sn S ≤ 14 := hr.2.2.1.1
  have h9 : g d 9 = nI 14 := by rw [hr.2.2.1.2.1, hs]
  refine ce_enter (by decide) rfl (Nat.le_of_ble_eq_true rfl) (L := [some (.ref (d))]) rfl ?_
  refine ce_aload_n dX8_remember_0 rfl ?_
  refine ce_getIv dX8_remember_1 fRX8_47 hD.1 h9 ?_
  refine ce_bipush (v := nI (14)) dX8_remember_4 (by decide) ?_
  refine ce_icmp_neN (tgt := 37) dX8_remember_6 (by decide) rfl rfl (by omega) (by omega) (fun c_6 => ?_) (fun c_6 => ?_)
  · omega
  · refine ce_aload_n dX8_remember_9 rfl ?_
    refine ce_getR dX8_remember_10 fRX8_22 hD.1 hD.2.1.2.2.2.2.1 ?_
    refine ce_sipush (v := nI (189)) dX8_remember_13 (by decide) ?_
    refine ce_aload_n dX8_remember_16 rfl ?_
    refine ce_getR dX8_remember_17 fRX8_22 hD.1 hD.2.1.2.2.2.2.1 ?_
    refine ce_iconst (v := nI (0)) dX8_remember_20 (by decide) ?_
    refine ce_sipush (v := nI (2457)) dX8_remember_21 (by decide) ?_
    refine ce_cSu dX8_remember_24 hX8_copy kRX8_50 (m_X8_copy (d + 5) 189 (d + 5) 0 2457 2646 2646 ⟨(hD.2.2.2.2.2.2.1).1, (hD.2.2.2.2.2.2.1).2⟩ ⟨(hD.2.2.2.2.2.2.1).1, (hD.2.2.2.2.2.2.1).2⟩ (by omega) (by omega) (by omega) (by omega)) rfl rfl (by decide) (Nat.le_of_ble_eq_true rfl) (fun cg1 hcg1 => ?_)
    have ncg1 : cg1 d 9 = nI 14 := by rw [hcg1, ce_mv_ne (by omega)]; exact h9
    refine ce_aload_n dX8_remember_27 rfl ?_
    refine ce_dup dX8_remember_28 rfl ?_
    refine ce_getIv dX8_remember_29 fRX8_47 hD.1 ncg1 ?_
    refine ce_iconst (v := nI (1)) dX8_remember_32 (by decide) ?_
    refine ce_isub (z := nI (14 - (1))) dX8_remember_33 (pk_sub (by omega)) ?_
    refine ce_putI dX8_remember_34 pRX8_47 hD.1 rfl rfl ?_
    generalize hcg2 : ce_up cg1 (d) 9 (nI (14 - (1))) = cg2
    have ncg2 : cg2 d 9 = nI (14 - (1)) := by rw [← hcg2]; exact ce_up_at _ _ _ _
    refine ce_aload_n dX8_remember_37 rfl ?_
    refine ce_getR dX8_remember_38 fRX8_16 hD.1 hD.2.1.2.2.1 ?_
    refine ce_iconst (v := nI (0)) dX8_remember_41 (by decide) ?_
    refine ce_aload_n dX8_remember_42 rfl ?_
    refine ce_getR dX8_remember_43 fRX8_22 hD.1 hD.2.1.2.2.2.2.1 ?_
    refine ce_sipush (v := nI (189)) dX8_remember_46 (by decide) ?_
    refine ce_aload_n dX8_remember_49 rfl ?_
    refine ce_getIv dX8_remember_50 fRX8_47 hD.1 ncg2 ?_
    refine ce_imul (z := nI (189 * 13)) dX8_remember_53 (pk_mul _ _) ?_
    refine ce_sipush (v := nI (189)) dX8_remember_54 (by decide) ?_
    refine ce_cSu dX8_remember_57 hX8_copy kRX8_50 (m_X8_copy (d + 3) 0 (d + 5) (189 * 13) 189 189 2646 ⟨(hD.2.2.2.2.1).1, (hD.2.2.2.2.1).2⟩ ⟨(hD.2.2.2.2.2.2.1).1, (hD.2.2.2.2.2.2.1).2⟩ (by omega) (by omega) (by omega) (by omega)) rfl rfl (by decide) (Nat.le_of_ble_eq_true rfl) (fun cg3 hcg3 => ?_)
    have ncg3 : cg3 d 9 = nI (13) := by rw [hcg3, ce_mv_ne (by omega)]; exact ncg2
    refine ce_aload_n dX8_remember_60 rfl ?_
    refine ce_dup dX8_remember_61 rfl ?_
    refine ce_getIv dX8_remember_62 fRX8_47 hD.1 ncg3 ?_
    refine ce_iconst (v := nI (1)) dX8_remember_65 (by decide) ?_
    refine ce_iadd (z := nI (13 + 1)) dX8_remember_66 (nI_add _ _) ?_
    refine ce_putI dX8_remember_67 pRX8_47 hD.1 rfl rfl ?_
    generalize hcg4 : ce_up cg3 (d) 9 (nI (13 + 1)) = cg4
    have ncg4 : cg4 d 9 = nI (13 + 1) := by rw [← hcg4]; exact ce_up_at _ _ _ _
    refine ce_vret dX8_remember_70 rfl (by decide) (by decide) ⟨rfl, rfl, ⟨by unfold kh_n; rw [if_pos hs]; exact ncg4, fun i hi => ?_⟩, fun k hk9 => ?_, fun x h1 h2 => ?_⟩
    · have hi : i < 14 := by unfold kh_n at hi; rw [if_pos hs] at hi; exact hi
      unfold kh_f
      rw [if_pos hs, if_pos hs]
      have e5 : cg4 (d + 5) = cg3 (d + 5) := by rw [← hcg4]; exact ce_up_ne _ _ _ (by omega)
      rw [e5, hcg3]
      by_cases q : i = 13
      · rw [if_pos q, if_pos q, q]
        refine cr_mv (p := 0) ?_
        have e3 : cg2 (d + 3) = g (d + 3) := by rw [← hcg2, ce_up_ne _ _ _ (by omega), hcg1, ce_mv_ne (by omega)]
        rw [e3]
        exact hr.2.1.eq (fun j _ => by rw [Nat.zero_add])
      · rw [if_neg q, if_neg q]
        refine (hr.2.2.1.2.2 (i + 1) (by omega)).eq (fun j hj => ?_)
        rw [ce_mv_out (by omega), ← hcg2, ce_up_ne _ _ _ (by omega), hcg1, ce_mv_in (by omega)]
        exact congrArg (g (d + 5)) (by omega)
    · rw [← hcg4, ce_up_j hk9, hcg3, ce_mv_ne (by omega), ← hcg2, ce_up_j hk9, hcg1, ce_mv_ne (by omega)]
    · rw [← hcg4, ce_up_ne _ _ _ h1, hcg3, ce_mv_ne h2, ← hcg2, ce_up_ne _ _ _ h1, hcg1, ce_mv_ne h2]
set_option maxHeartbeats 2000000 in
set_option maxRecDepth 20000 in
theorem m_X8_remember_more {σ : ce_S} {g : ce_D} (d : Nat) (S : ks_S) (hD : ce_LM σ d) (hr : ce_rM g d S) (hs : ¬ sn S = 14) : ce_CT (ce_r 1) mX8_remember [.ref (d)] σ g (ce_uv σ (fun g1 => (g1 d 9 = nI (kh_n (sn S)) ∧ ∀ i, i < kh_n (sn S) → cr_row (fun j => g1 (d + 5) (189 * i + j)) (kq (kh_f (sn S) (sKH S) (sK S) i)) (kh_f (sn S) (sOH S) (sO S) i)) ∧ (∀ k, k ≠ 9 → g1 d k = g d k) ∧ ∀ x, x ≠ d → x ≠ d + 5 → g1 x = g x)) ce_no := by
  have h14 : sn S ≤ 14 := hr.2.2.1.1
  have h9 := hr.2.2.1.2.1
  refine ce_enter (by decide) rfl (Nat.le_of_ble_eq_true rfl) (L := [some (.ref (d))]) rfl ?_
  refine ce_aload_n dX8_remember_0 rfl ?_
  refine ce_getIv dX8_remember_1 fRX8_47 hD.1 h9 ?_
  refine ce_bipush (v := nI (14)) dX8_remember_4 (by decide) ?_
  refine ce_icmp_neN (tgt := 37) dX8_remember_6 (by decide) rfl rfl (by omega) (by omega) (fun c_6 => ?_) (fun c_6 => ?_)
  · refine ce_aload_n dX8_remember_37 rfl ?_
    refine ce_getR dX8_remember_38 fRX8_16 hD.1 hD.2.1.2.2.1 ?_
    refine ce_iconst (v := nI (0)) dX8_remember_41 (by decide) ?_
    refine ce_aload_n dX8_remember_42 rfl ?_
    refine ce_getR dX8_remember_43 fRX8_22 hD.1 hD.2.1.2.2.2.2.1 ?_
    refine ce_sipush (v := nI (189)) dX8_remember_46 (by decide) ?_
    refine ce_aload_n dX8_remember_49 rfl ?_
    refine ce_getIv dX8_remember_50 fRX8_47 hD.1 h9 ?_
    refine ce_imul (z := nI (189 * (sn S))) dX8_remember_53 (pk_mul _ _) ?_
    refine ce_sipush (v := nI (189)) dX8_remember_54 (by decide) ?_
    refine ce_cSu dX8_remember_57 hX8_copy kRX8_50 (m_X8_copy (d + 3) 0 (d + 5) (189 * (sn S)) 189 189 2646 ⟨(hD.2.2.2.2.1).1, (hD.2.2.2.2.1).2⟩ ⟨(hD.2.2.2.2.2.2.1).1, (hD.2.2.2.2.2.2.1).2⟩ (by omega) (by omega) (by omega) (by omega)) rfl rfl (by decide) (Nat.le_of_ble_eq_true rfl) (fun cg1 hcg1 => ?_)
    have ncg1 : cg1 d 9 = nI (sn S) := by rw [hcg1, ce_mv_ne (by omega)]; exact h9
    refine ce_aload_n dX8_remember_60 rfl ?_
    refine ce_dup dX8_remember_61 rfl ?_
    refine ce_getIv dX8_remember_62 fRX8_47 hD.1 ncg1 ?_
    refine ce_iconst (v := nI (1)) dX8_remember_65 (by decide) ?_
    refine ce_iadd (z := nI (sn S + 1)) dX8_remember_66 (nI_add _ _) ?_
    refine ce_putI dX8_remember_67 pRX8_47 hD.1 rfl rfl ?_
    generalize hcg2 : ce_up cg1 (d) 9 (nI (sn S + 1)) = cg2
    have ncg2 : cg2 d 9 = nI (sn S + 1) := by rw [← hcg2]; exact ce_up_at _ _ _ _
    refine ce_vret dX8_remember_70 rfl (by decide) (by decide) ⟨rfl, rfl, ⟨by unfold kh_n; rw [if_neg hs]; exact ncg2, fun i hi => ?_⟩, fun k hk9 => ?_, fun x h1 h2 => ?_⟩
    · have hi : i < sn S + 1 := by unfold kh_n at hi; rw [if_neg hs] at hi; exact hi
      unfold kh_f
      rw [if_neg hs, if_neg hs]
      have e5 : cg2 (d + 5) = cg1 (d + 5) := by rw [← hcg2]; exact ce_up_ne _ _ _ (by omega)
      rw [e5, hcg1]
      by_cases q : i = sn S
      · rw [if_pos q, if_pos q, q]
        refine cr_mv (p := 0) ?_
        exact hr.2.1.eq (fun j _ => by rw [Nat.zero_add])
      · rw [if_neg q, if_neg q]
        refine (hr.2.2.1.2.2 i (by omega)).eq (fun j hj => ?_)
        exact ce_mv_out (by omega)
    · rw [← hcg2, ce_up_j hk9, hcg1, ce_mv_ne (by omega)]
    · rw [← hcg2, ce_up_ne _ _ _ h1, hcg1, ce_mv_ne h2]
  · omega
theorem m_X8_remember {σ : ce_S} {g : ce_D} (d : Nat) (S : ks_S) (hD : ce_LM σ d) (hr : ce_rM g d S) : ce_CT (ce_r 1) mX8_remember [.ref (d)] σ g (ce_uv σ (fun g1 => (g1 d 9 = nI (kh_n (sn S)) ∧ ∀ i, i < kh_n (sn S) → cr_row (fun j => g1 (d + 5) (189 * i + j)) (kq (kh_f (sn S) (sKH S) (sK S) i)) (kh_f (sn S) (sOH S) (sO S) i)) ∧ (∀ k, k ≠ 9 → g1 d k = g d k) ∧ ∀ x, x ≠ d → x ≠ d + 5 → g1 x = g x)) ce_no := by
  by_cases hs : sn S = 14
  · exact m_X8_remember_full d S hD hr hs
  · exact m_X8_remember_more d S hD hr hs
theorem kh_n_le {n : Nat} (h : n ≤ 14) : kh_n n ≤ 14 := by
  unfold kh_n
  split <;> omega
/-- an action behind what was remembered -/
theorem rM_act {g g1 g2 : ce_D} {d : Nat} {S : ks_S} {K : ce_V} {O : Nat → Int32} (h : ce_rM g d S) (hm : (g1 d 9 = nI (kh_n (sn S)) ∧ ∀ i, i < kh_n (sn S) → cr_row (fun j => g1 (d + 5) (189 * i + j)) (kq (kh_f (sn S) (sKH S) (sK S) i)) (kh_f (sn S) (sOH S) (sO S) i)) ∧ (∀ k, k ≠ 9 → g1 d k = g d k) ∧ ∀ x, x ≠ d → x ≠ d + 5 → g1 x = g x) (hr : cr_row (g2 (d + 3)) (kq K) O) (f : ∀ x, x ≠ d + 8 → x ≠ d + 3 → g2 x = g1 x) : ce_rM g2 d (ks_act S K O) ∧ g2 d 0 = g d 0 ∧ ce_fr d (d + 11) g g2 := by
  obtain ⟨⟨h1, h2, h3⟩, h4, ⟨h5, h6, h7⟩, h8, h9⟩ := h
  obtain ⟨⟨m1, m2⟩, m3, m4⟩ := hm
  have ed : g2 d = g1 d := f d (by omega) (by omega)
  have e5 : g2 (d + 5) = g1 (d + 5) := f _ (by omega) (by omega)
  have e1 : g2 (d + 1) = g (d + 1) := (f _ (by omega) (by omega)).trans (m4 _ (by omega) (by omega))
  have e7 : g2 (d + 7) = g (d + 7) := (f _ (by omega) (by omega)).trans (m4 _ (by omega) (by omega))
  have e6 : g2 (d + 6) = g (d + 6) := (f _ (by omega) (by omega)).trans (m4 _ (by omega) (by omega))
  refine ⟨⟨⟨h1, by rw [ed, m3 2 (by decide)]; exact h2, by rw [e1]; exact h3⟩, hr, ⟨kh_n_le h5, by rw [ed]; exact m1, by rw [e5]; exact m2⟩, by rw [e7]; exact h8, by rw [e6]; exact h9⟩, by rw [ed, m3 0 (by decide)], fun x hx => (f x (by omega) (by omega)).trans (m4 x (by omega) (by omega))⟩
