set_option maxHeartbeats 2000000 in
set_option maxRecDepth 20000 in
theorem er_1 {a : Nat} {S : ks_S} {σ0 : ce_S} {g0 : ce_D} (iv : kl_iv S) {Q : Option Value → ce_S → ce_D → Prop} {X : String → ce_S → ce_D → Prop} (kk : ∀ (kz : Nat) (σ : ce_S) (g : ce_D), kw a S σ0 g0 σ g → kz ≤ 4 → ce_WP (ce_rl 2 300) mL_errors (kz) (6 * (kz)) 84 [some (.ref (a)), some (.long (nw (sK S) (sO S))), none, some (.int (nI (sK S 0 0))), some (.int (nI (sK S 0 1))), some (.int (nI (sK S 0 2))), none, none, none, none, none, none, none] [] σ g Q X) {kz : Nat} {σ : ce_S} {g : ce_D} (hw : kw a S σ0 g0 σ g) (hkz : kz ≤ 0) : ce_WP (ce_rl 2 300) mL_errors (kz) (6 * (kz)) 28 [some (.ref (a)), some (.long (nw (sK S) (sO S))), none, some (.int (nI (sK S 0 0))), some (.int (nI (sK S 0 1))), some (.int (nI (sK S 0 2))), none, none, none, none, none, none, none] [] σ g Q X := by
  have b9 := iv.ok.1.b
  refine ce_aload_n dL_errors_28 rfl ?_
  refine ce_iconst (v := (-1)) dL_errors_29 (by decide) ?_
  refine kc_Wk dL_errors_30 hL_about kRL_112 (h_about_n2 ((-1)) hw (fun b hX hr => kl_of_x hr (m_X7_about_n2 a b S hX hr iv.ok ((-1)) 2 (by decide) (by decide) (by decide)))) rfl rfl (by decide) (Nat.le_of_ble_eq_true rfl) rfl (by show _ ≤ 300; omega) (fun cs1 cg1 hcg1 => ?_)
  refine ce_ldc2 dL_errors_33 kRL_17 ?_
  refine ce_lcmp (z := lg_cmp ((-9000000000000000002 : Int64)) ((-9000000000000000002 : Int64))) dL_errors_36 rfl ?_
  refine ce_if_neC (tgt := 299) dL_errors_37 (by decide) rfl (fun c_37 => ?_) (fun c_37 => ?_)
  · exact absurd rfl c_37
  · refine ce_aload_n dL_errors_40 rfl ?_
    refine ce_bipush (v := nI (10)) dL_errors_41 (by decide) ?_
    refine kc_Wk dL_errors_43 hL_about kRL_112 (h_about_n2 (nI (10)) hcg1 (fun b hX hr => kl_of_x hr (m_X7_about_n2 a b S hX hr iv.ok (nI (10)) 2 (by decide) (by decide) (by decide)))) rfl rfl (by decide) (Nat.le_of_ble_eq_true rfl) rfl (by show _ ≤ 300; omega) (fun cs2 cg2 hcg2 => ?_)
    refine ce_ldc2 dL_errors_46 kRL_17 ?_
    refine ce_lcmp (z := lg_cmp ((-9000000000000000002 : Int64)) ((-9000000000000000002 : Int64))) dL_errors_49 rfl ?_
    refine ce_if_neC (tgt := 299) dL_errors_50 (by decide) rfl (fun c_50 => ?_) (fun c_50 => ?_)
    · exact absurd rfl c_50
    · refine ce_aload_n dL_errors_53 rfl ?_
      refine ce_iload_n dL_errors_54 rfl ?_
      refine ce_bipush (v := nI (9)) dL_errors_55 (by decide) ?_
      refine kc_Wk dL_errors_57 hL_member kRL_117 (h_member_n1 (nI (sK S 0 0)) (nI (9)) hcg2 (fun b hX hr => kl_of_x hr (m_X7_member_n1 a b S hX hr iv.ok (nI (sK S 0 0)) (nI (9)) (by simp (disch := omega) only [ce_in, nI_toInt, Int.toNat_natCast]; omega)))) rfl rfl (by decide) (Nat.le_of_ble_eq_true rfl) rfl (by show _ ≤ 300; omega) (fun cs3 cg3 hcg3 => ?_)
      refine ce_ldc2 dL_errors_60 kRL_36 ?_
      refine ce_lcmp (z := lg_cmp ((-9000000000000000001 : Int64)) ((-9000000000000000001 : Int64))) dL_errors_63 rfl ?_
      refine ce_if_neC (tgt := 299) dL_errors_64 (by decide) rfl (fun c_64 => ?_) (fun c_64 => ?_)
      · exact absurd rfl c_64
      · refine ce_iload_n dL_errors_67 rfl ?_
        refine ce_if_eqN (tgt := 84) dL_errors_68 (by decide) rfl (by omega) (fun c_68 => ?_) (fun c_68 => ?_)
        · exact kk _ _ _ hcg3 (by omega)
        · refine ce_aload_n dL_errors_71 rfl ?_
          refine ce_iconst (v := nI (0)) dL_errors_72 (by decide) ?_
          refine ce_iconst (v := nI (4)) dL_errors_73 (by decide) ?_
          refine kc_Wk dL_errors_74 hL_member kRL_117 (h_member_n2 (nI (0)) (nI (4)) hcg3 (fun b hX hr => kl_of_x hr (m_X7_member_n2 a b S hX hr iv.ok (nI (0)) (nI (4)) (by simp (disch := omega) only [ce_in, nI_toInt, Int.toNat_natCast]; omega) 2 (by decide) (by decide) (by decide)))) rfl rfl (by decide) (Nat.le_of_ble_eq_true rfl) rfl (by show _ ≤ 300; omega) (fun cs4 cg4 hcg4 => ?_)
          refine ce_ldc2 dL_errors_77 kRL_17 ?_
          refine ce_lcmp (z := lg_cmp ((-9000000000000000002 : Int64)) ((-9000000000000000002 : Int64))) dL_errors_80 rfl ?_
          refine ce_if_neC (tgt := 299) dL_errors_81 (by decide) rfl (fun c_81 => ?_) (fun c_81 => ?_)
          · exact absurd rfl c_81
          · exact kk _ _ _ hcg4 (by omega)
set_option maxHeartbeats 2000000 in
set_option maxRecDepth 20000 in
theorem er_2 {a : Nat} {S : ks_S} {σ0 : ce_S} {g0 : ce_D} (iv : kl_iv S) {Q : Option Value → ce_S → ce_D → Prop} {X : String → ce_S → ce_D → Prop} (kk : ∀ (kz : Nat) (σ : ce_S) (g : ce_D), kw a S σ0 g0 σ g → kz ≤ 6 → ce_WP (ce_rl 2 300) mL_errors (kz) (6 * (kz)) 118 [some (.ref (a)), some (.long (nw (sK S) (sO S))), none, some (.int (nI (sK S 0 0))), some (.int (nI (sK S 0 1))), some (.int (nI (sK S 0 2))), none, none, none, none, none, none, none] [] σ g Q X) {kz : Nat} {σ : ce_S} {g : ce_D} (hw : kw a S σ0 g0 σ g) (hkz : kz ≤ 4) : ce_WP (ce_rl 2 300) mL_errors (kz) (6 * (kz)) 84 [some (.ref (a)), some (.long (nw (sK S) (sO S))), none, some (.int (nI (sK S 0 0))), some (.int (nI (sK S 0 1))), some (.int (nI (sK S 0 2))), none, none, none, none, none, none, none] [] σ g Q X := by
  have b9 := iv.ok.1.b
  refine ce_aload_n dL_errors_84 rfl ?_
  refine ce_iload dL_errors_85 rfl ?_
  refine ce_bipush (v := nI (9)) dL_errors_87 (by decide) ?_
  refine kc_Wk dL_errors_89 hL_wine kRL_127 (h_wine_n1 (nI (sK S 0 1)) (nI (9)) hw (fun b hX hr => kl_of_x hr (m_X7_wine_n1 a b S hX hr iv.ok (nI (sK S 0 1)) (nI (9)) (by simp (disch := omega) only [ce_in, nI_toInt, Int.toNat_natCast]; omega)))) rfl rfl (by decide) (Nat.le_of_ble_eq_true rfl) rfl (by show _ ≤ 300; omega) (fun cs1 cg1 hcg1 => ?_)
  refine ce_ldc2 dL_errors_92 kRL_36 ?_
  refine ce_lcmp (z := lg_cmp ((-9000000000000000001 : Int64)) ((-9000000000000000001 : Int64))) dL_errors_95 rfl ?_
  refine ce_if_neC (tgt := 299) dL_errors_96 (by decide) rfl (fun c_96 => ?_) (fun c_96 => ?_)
  · exact absurd rfl c_96
  · refine ce_iload dL_errors_99 rfl ?_
    refine ce_if_eqN (tgt := 118) dL_errors_101 (by decide) rfl (by omega) (fun c_101 => ?_) (fun c_101 => ?_)
    · exact kk _ _ _ hcg1 (by omega)
    · refine ce_aload_n dL_errors_104 rfl ?_
      refine ce_iconst (v := nI (0)) dL_errors_105 (by decide) ?_
      refine ce_bipush (v := nI (9)) dL_errors_106 (by decide) ?_
      refine kc_Wk dL_errors_108 hL_wine kRL_127 (h_wine_n2 (nI (0)) (nI (9)) hcg1 (fun b hX hr => kl_of_x hr (m_X7_wine_n2 a b S hX hr iv.ok (nI (0)) (nI (9)) (by simp (disch := omega) only [ce_in, nI_toInt, Int.toNat_natCast]; omega) 2 (by decide) (by decide) (by decide)))) rfl rfl (by decide) (Nat.le_of_ble_eq_true rfl) rfl (by show _ ≤ 300; omega) (fun cs2 cg2 hcg2 => ?_)
      refine ce_ldc2 dL_errors_111 kRL_17 ?_
      refine ce_lcmp (z := lg_cmp ((-9000000000000000002 : Int64)) ((-9000000000000000002 : Int64))) dL_errors_114 rfl ?_
      refine ce_if_neC (tgt := 299) dL_errors_115 (by decide) rfl (fun c_115 => ?_) (fun c_115 => ?_)
      · exact absurd rfl c_115
      · exact kk _ _ _ hcg2 (by omega)
set_option maxHeartbeats 2000000 in
set_option maxRecDepth 20000 in
theorem er_3 {a : Nat} {S : ks_S} {σ0 : ce_S} {g0 : ce_D} (iv : kl_iv S) {Q : Option Value → ce_S → ce_D → Prop} {X : String → ce_S → ce_D → Prop} (kk : ∀ (kz : Nat) (σ : ce_S) (g : ce_D), kw a S σ0 g0 σ g → kz ≤ 10 → ce_WP (ce_rl 2 300) mL_errors (kz) (6 * (kz)) 182 [some (.ref (a)), some (.long (nw (sK S) (sO S))), none, some (.int (nI (sK S 0 0))), some (.int (nI (sK S 0 1))), some (.int (nI (sK S 0 2))), none, none, none, none, none, none, none] [] σ g Q X) {kz : Nat} {σ : ce_S} {g : ce_D} (hw : kw a S σ0 g0 σ g) (hkz : kz ≤ 6) : ce_WP (ce_rl 2 300) mL_errors (kz) (6 * (kz)) 118 [some (.ref (a)), some (.long (nw (sK S) (sO S))), none, some (.int (nI (sK S 0 0))), some (.int (nI (sK S 0 1))), some (.int (nI (sK S 0 2))), none, none, none, none, none, none, none] [] σ g Q X := by
  have b9 := iv.ok.1.b
  refine ce_aload_n dL_errors_118 rfl ?_
  refine ce_iload dL_errors_119 rfl ?_
  refine ce_bipush (v := nI (9)) dL_errors_121 (by decide) ?_
  refine kc_Wk dL_errors_123 hL_bin kRL_129 (h_bin_n1 (nI (sK S 0 2)) (nI (9)) hw (fun b hX hr => kl_of_x hr (m_X7_bin_n1 a b S hX hr iv.ok (nI (sK S 0 2)) (nI (9)) (by simp (disch := omega) only [ce_in, nI_toInt, Int.toNat_natCast]; omega)))) rfl rfl (by decide) (Nat.le_of_ble_eq_true rfl) rfl (by show _ ≤ 300; omega) (fun cs1 cg1 hcg1 => ?_)
  refine ce_ldc2 dL_errors_126 kRL_36 ?_
  refine ce_lcmp (z := lg_cmp ((-9000000000000000001 : Int64)) ((-9000000000000000001 : Int64))) dL_errors_129 rfl ?_
  refine ce_if_neC (tgt := 299) dL_errors_130 (by decide) rfl (fun c_130 => ?_) (fun c_130 => ?_)
  · exact absurd rfl c_130
  · refine ce_iload dL_errors_133 rfl ?_
    refine ce_if_eqN (tgt := 182) dL_errors_135 (by decide) rfl (by omega) (fun c_135 => ?_) (fun c_135 => ?_)
    · exact kk _ _ _ hcg1 (by omega)
    · refine ce_aload_n dL_errors_138 rfl ?_
      refine ce_iconst (v := nI (0)) dL_errors_139 (by decide) ?_
      refine ce_iconst (v := nI (3)) dL_errors_140 (by decide) ?_
      refine kc_Wk dL_errors_141 hL_bin kRL_129 (h_bin_n2 (nI (0)) (nI (3)) hcg1 (fun b hX hr => kl_of_x hr (m_X7_bin_n2 a b S hX hr iv.ok (nI (0)) (nI (3)) (by simp (disch := omega) only [ce_in, nI_toInt, Int.toNat_natCast]; omega) 2 (by decide) (by decide) (by decide)))) rfl rfl (by decide) (Nat.le_of_ble_eq_true rfl) rfl (by show _ ≤ 300; omega) (fun cs2 cg2 hcg2 => ?_)
      refine ce_ldc2 dL_errors_144 kRL_17 ?_
      refine ce_lcmp (z := lg_cmp ((-9000000000000000002 : Int64)) ((-9000000000000000002 : Int64))) dL_errors_147 rfl ?_
      refine ce_if_neC (tgt := 299) dL_errors_148 (by decide) rfl (fun c_148 => ?_) (fun c_148 => ?_)
      · exact absurd rfl c_148
      · refine ce_aload_n dL_errors_151 rfl ?_
        refine ce_iconst (v := nI (0)) dL_errors_152 (by decide) ?_
        refine ce_iconst (v := nI (0)) dL_errors_153 (by decide) ?_
        refine ce_bipush (v := nI (9)) dL_errors_154 (by decide) ?_
        refine kc_Wk dL_errors_156 hL_move kRL_135 (h_move_n2 (nI (0)) (nI (0)) (nI (9)) hcg2 (fun b hX hr => kl_of_x hr (m_X7_move_no a b S hX hr iv.ok (nI (0)) (nI (0)) (nI (9)) 2 (by unfold kv_carF; simp (disch := omega) only [ce_n, ce_in, nI_toInt, Int.toNat_natCast, true_or, ↓reduceIte]; (repeat' split) <;> first | rfl | omega) (by decide) (by decide)))) rfl rfl (by decide) (Nat.le_of_ble_eq_true rfl) rfl (by show _ ≤ 300; omega) (fun cs3 cg3 hcg3 => ?_)
        refine ce_ldc2 dL_errors_159 kRL_17 ?_
        refine ce_lcmp (z := lg_cmp ((-9000000000000000002 : Int64)) ((-9000000000000000002 : Int64))) dL_errors_162 rfl ?_
        refine ce_if_neC (tgt := 299) dL_errors_163 (by decide) rfl (fun c_163 => ?_) (fun c_163 => ?_)
        · exact absurd rfl c_163
        · refine ce_aload_n dL_errors_166 rfl ?_
          refine ce_iconst (v := nI (0)) dL_errors_167 (by decide) ?_
          refine ce_iload dL_errors_168 rfl ?_
          refine ce_bipush (v := nI (9)) dL_errors_170 (by decide) ?_
          refine kc_Wk dL_errors_172 hL_move kRL_135 (h_move_n1 (nI (0)) (nI (sK S 0 2)) (nI (9)) hcg3 (fun b hX hr => kl_of_x hr (m_X7_move_no a b S hX hr iv.ok (nI (0)) (nI (sK S 0 2)) (nI (9)) 1 (by unfold kv_carF; simp (disch := omega) only [ce_n, ce_in, nI_toInt, Int.toNat_natCast, true_or, ↓reduceIte]; (repeat' split) <;> first | rfl | omega) (by decide) (by decide)))) rfl rfl (by decide) (Nat.le_of_ble_eq_true rfl) rfl (by show _ ≤ 300; omega) (fun cs4 cg4 hcg4 => ?_)
          refine ce_ldc2 dL_errors_175 kRL_36 ?_
          refine ce_lcmp (z := lg_cmp ((-9000000000000000001 : Int64)) ((-9000000000000000001 : Int64))) dL_errors_178 rfl ?_
          refine ce_if_neC (tgt := 299) dL_errors_179 (by decide) rfl (fun c_179 => ?_) (fun c_179 => ?_)
          · exact absurd rfl c_179
          · exact kk _ _ _ hcg4 (by omega)
set_option maxHeartbeats 2000000 in
set_option maxRecDepth 20000 in
theorem er_4 {a : Nat} {S : ks_S} {σ0 : ce_S} {g0 : ce_D} (iv : kl_iv S) {Q : Option Value → ce_S → ce_D → Prop} {X : String → ce_S → ce_D → Prop} (kk : ∀ (kz : Nat) (σ : ce_S) (g : ce_D), kw a S σ0 g0 σ g → kz ≤ 17 → ce_WP (ce_rl 2 300) mL_errors (kz) (6 * (kz)) 295 [some (.ref (a)), some (.long (nw (sK S) (sO S))), none, some (.int (nI (sK S 0 0))), some (.int (nI (sK S 0 1))), some (.int (nI (sK S 0 2))), none, none, none, none, none, none, none] [] σ g Q X) {kz : Nat} {σ : ce_S} {g : ce_D} (hw : kw a S σ0 g0 σ g) (hkz : kz ≤ 10) : ce_WP (ce_rl 2 300) mL_errors (kz) (6 * (kz)) 182 [some (.ref (a)), some (.long (nw (sK S) (sO S))), none, some (.int (nI (sK S 0 0))), some (.int (nI (sK S 0 1))), some (.int (nI (sK S 0 2))), none, none, none, none, none, none, none] [] σ g Q X := by
  have b9 := iv.ok.1.b
  refine ce_aload_n dL_errors_182 rfl ?_
  refine ce_iload_n dL_errors_183 rfl ?_
  refine ce_iconst (v := nI (0)) dL_errors_184 (by decide) ?_
  refine ce_bipush (v := nI (9)) dL_errors_185 (by decide) ?_
  refine kc_Wk dL_errors_187 hL_has kRL_122 (h_has_n1 (nI (sK S 0 0)) (nI (0)) (nI (9)) hw (fun b hX hr => kl_of_x hr (m_X7_has_n1 a b S hX hr iv.ok (nI (sK S 0 0)) (nI (0)) (nI (9)) (by simp (disch := omega) only [ce_in, nI_toInt, Int.toNat_natCast]; omega)))) rfl rfl (by decide) (Nat.le_of_ble_eq_true rfl) rfl (by show _ ≤ 300; omega) (fun cs1 cg1 hcg1 => ?_)
  refine ce_ldc2 dL_errors_190 kRL_36 ?_
  refine ce_lcmp (z := lg_cmp ((-9000000000000000001 : Int64)) ((-9000000000000000001 : Int64))) dL_errors_193 rfl ?_
  refine ce_if_neC (tgt := 299) dL_errors_194 (by decide) rfl (fun c_194 => ?_) (fun c_194 => ?_)
  · exact absurd rfl c_194
  · refine ce_aload_n dL_errors_197 rfl ?_
    refine ce_iconst (v := nI (0)) dL_errors_198 (by decide) ?_
    refine ce_iload dL_errors_199 rfl ?_
    refine ce_bipush (v := nI (9)) dL_errors_201 (by decide) ?_
    refine kc_Wk dL_errors_203 hL_has kRL_122 (h_has_n1 (nI (0)) (nI (sK S 0 1)) (nI (9)) hcg1 (fun b hX hr => kl_of_x hr (m_X7_has_n1 a b S hX hr iv.ok (nI (0)) (nI (sK S 0 1)) (nI (9)) (by simp (disch := omega) only [ce_in, nI_toInt, Int.toNat_natCast]; omega)))) rfl rfl (by decide) (Nat.le_of_ble_eq_true rfl) rfl (by show _ ≤ 300; omega) (fun cs2 cg2 hcg2 => ?_)
    refine ce_ldc2 dL_errors_206 kRL_36 ?_
    refine ce_lcmp (z := lg_cmp ((-9000000000000000001 : Int64)) ((-9000000000000000001 : Int64))) dL_errors_209 rfl ?_
    refine ce_if_neC (tgt := 299) dL_errors_210 (by decide) rfl (fun c_210 => ?_) (fun c_210 => ?_)
    · exact absurd rfl c_210
    · refine ce_iload_n dL_errors_213 rfl ?_
      refine ce_if_eqN (tgt := 295) dL_errors_214 (by decide) rfl (by omega) (fun c_214 => ?_) (fun c_214 => ?_)
      · exact kk _ _ _ hcg2 (by omega)
      · refine ce_iload dL_errors_217 rfl ?_
        refine ce_if_eqN (tgt := 295) dL_errors_219 (by decide) rfl (by omega) (fun c_219 => ?_) (fun c_219 => ?_)
        · exact kk _ _ _ hcg2 (by omega)
        · refine ce_aload_n dL_errors_222 rfl ?_
          refine ce_iconst (v := nI (0)) dL_errors_223 (by decide) ?_
          refine ce_iconst (v := nI (0)) dL_errors_224 (by decide) ?_
          refine ce_iconst (v := nI (3)) dL_errors_225 (by decide) ?_
          refine kc_Wk dL_errors_226 hL_has kRL_122 (h_has_n2 (nI (0)) (nI (0)) (nI (3)) hcg2 (fun b hX hr => kl_of_x hr (m_X7_has_n2 a b S hX hr iv.ok (nI (0)) (nI (0)) (nI (3)) (by simp (disch := omega) only [ce_in, nI_toInt, Int.toNat_natCast]; omega) 2 (by decide) (by decide) (by decide)))) rfl rfl (by decide) (Nat.le_of_ble_eq_true rfl) rfl (by show _ ≤ 300; omega) (fun cs3 cg3 hcg3 => ?_)
          refine ce_ldc2 dL_errors_229 kRL_17 ?_
          refine ce_lcmp (z := lg_cmp ((-9000000000000000002 : Int64)) ((-9000000000000000002 : Int64))) dL_errors_232 rfl ?_
          refine ce_if_neC (tgt := 299) dL_errors_233 (by decide) rfl (fun c_233 => ?_) (fun c_233 => ?_)
          · exact absurd rfl c_233
          · refine ce_aload_n dL_errors_236 rfl ?_
            refine ce_iconst (v := nI (0)) dL_errors_237 (by decide) ?_
            refine ce_iconst (v := nI (0)) dL_errors_238 (by decide) ?_
            refine ce_bipush (v := nI (61)) dL_errors_239 (by decide) ?_
            refine kc_Wk dL_errors_241 hL_order kRL_137 (h_order_n2 (nI (0)) (nI (0)) (nI (61)) hcg3 (fun b hX hr => kl_of_x hr (m_X7_order_no a b S hX hr iv.ok (nI (0)) (nI (0)) (nI (61)) 2 (by unfold kv_ordF; simp (disch := omega) only [ce_n, ce_in, nI_toInt, Int.toNat_natCast, true_or, ↓reduceIte]; (repeat' split) <;> first | rfl | omega) (by decide) (by decide)))) rfl rfl (by decide) (Nat.le_of_ble_eq_true rfl) rfl (by show _ ≤ 300; omega) (fun cs4 cg4 hcg4 => ?_)
            refine ce_ldc2 dL_errors_244 kRL_17 ?_
            refine ce_lcmp (z := lg_cmp ((-9000000000000000002 : Int64)) ((-9000000000000000002 : Int64))) dL_errors_247 rfl ?_
            refine ce_if_neC (tgt := 299) dL_errors_248 (by decide) rfl (fun c_248 => ?_) (fun c_248 => ?_)
            · exact absurd rfl c_248
            · refine ce_aload_n dL_errors_251 rfl ?_
              refine ce_iconst (v := nI (0)) dL_errors_252 (by decide) ?_
              refine ce_iconst (v := nI (0)) dL_errors_253 (by decide) ?_
              refine ce_bipush (v := nI (61)) dL_errors_254 (by decide) ?_
              refine kc_Wk dL_errors_256 hL_drink kRL_139 (h_drink_n2 (nI (0)) (nI (0)) (nI (61)) hcg4 (fun b hX hr => kl_of_x hr (m_X7_drink_no a b S hX hr iv.ok (nI (0)) (nI (0)) (nI (61)) 2 (by unfold kv_driF; simp (disch := omega) only [ce_n, ce_in, nI_toInt, Int.toNat_natCast, true_or, ↓reduceIte]; (repeat' split) <;> first | rfl | omega) (by decide) (by decide)))) rfl rfl (by decide) (Nat.le_of_ble_eq_true rfl) rfl (by show _ ≤ 300; omega) (fun cs5 cg5 hcg5 => ?_)
              refine ce_ldc2 dL_errors_259 kRL_17 ?_
              refine ce_lcmp (z := lg_cmp ((-9000000000000000002 : Int64)) ((-9000000000000000002 : Int64))) dL_errors_262 rfl ?_
              refine ce_if_neC (tgt := 299) dL_errors_263 (by decide) rfl (fun c_263 => ?_) (fun c_263 => ?_)
              · exact absurd rfl c_263
              · refine ce_aload_n dL_errors_266 rfl ?_
                refine ce_iconst (v := nI (0)) dL_errors_267 (by decide) ?_
                refine ce_iconst (v := nI (0)) dL_errors_268 (by decide) ?_
                refine ce_iconst (v := nI (0)) dL_errors_269 (by decide) ?_
                refine kc_Wk dL_errors_270 hL_drink kRL_139 (h_drink_n2 (nI (0)) (nI (0)) (nI (0)) hcg5 (fun b hX hr => kl_of_x hr (m_X7_drink_no a b S hX hr iv.ok (nI (0)) (nI (0)) (nI (0)) 2 (by unfold kv_driF; simp (disch := omega) only [ce_n, ce_in, nI_toInt, Int.toNat_natCast, true_or, ↓reduceIte]; (repeat' split) <;> first | rfl | omega) (by decide) (by decide)))) rfl rfl (by decide) (Nat.le_of_ble_eq_true rfl) rfl (by show _ ≤ 300; omega) (fun cs6 cg6 hcg6 => ?_)
                refine ce_ldc2 dL_errors_273 kRL_17 ?_
                refine ce_lcmp (z := lg_cmp ((-9000000000000000002 : Int64)) ((-9000000000000000002 : Int64))) dL_errors_276 rfl ?_
                refine ce_if_neC (tgt := 299) dL_errors_277 (by decide) rfl (fun c_277 => ?_) (fun c_277 => ?_)
                · exact absurd rfl c_277
                · refine ce_aload_n dL_errors_280 rfl ?_
                  refine ce_iconst (v := nI (0)) dL_errors_281 (by decide) ?_
                  refine ce_iconst (v := nI (0)) dL_errors_282 (by decide) ?_
                  refine ce_iconst (v := nI (0)) dL_errors_283 (by decide) ?_
                  refine ce_iconst (v := nI (1)) dL_errors_284 (by decide) ?_
                  refine kc_Wk dL_errors_285 hL_give kRL_141 (h_give_n2 (nI (0)) (nI (0)) (nI (0)) (nI (1)) hcg6 (fun b hX hr => kl_of_x hr (m_X7_give_no a b S hX hr iv.ok (nI (0)) (nI (0)) (nI (0)) (nI (1)) 2 (by unfold kv_gifF; simp (disch := omega) only [ce_n, ce_in, nI_toInt, Int.toNat_natCast, true_or, ↓reduceIte]; (repeat' split) <;> first | rfl | omega) (by decide) (by decide)))) rfl rfl (by decide) (Nat.le_of_ble_eq_true rfl) rfl (by show _ ≤ 300; omega) (fun cs7 cg7 hcg7 => ?_)
                  refine ce_ldc2 dL_errors_288 kRL_17 ?_
                  refine ce_lcmp (z := lg_cmp ((-9000000000000000002 : Int64)) ((-9000000000000000002 : Int64))) dL_errors_291 rfl ?_
                  refine ce_if_neC (tgt := 299) dL_errors_292 (by decide) rfl (fun c_292 => ?_) (fun c_292 => ?_)
                  · exact absurd rfl c_292
                  · exact kk _ _ _ hcg7 (by omega)
set_option maxHeartbeats 2000000 in
set_option maxRecDepth 20000 in
theorem er_5 {a : Nat} {S : ks_S} {σ0 : ce_S} {g0 : ce_D} (iv : kl_iv S) {Q : Option Value → ce_S → ce_D → Prop} {X : String → ce_S → ce_D → Prop} (kk : ∀ (kz : Nat) (σ : ce_S) (g : ce_D), kw a S σ0 g0 σ g → kz ≤ 17 → ce_WP (ce_rl 2 300) mL_errors (kz) (6 * (kz)) 302 [some (.ref (a)), some (.long (nw (sK S) (sO S))), none, some (.int (nI (sK S 0 0))), some (.int (nI (sK S 0 1))), some (.int (nI (sK S 0 2))), some (.int (nI (1))), none, none, none, none, none, none] [] σ g Q X) {kz : Nat} {σ : ce_S} {g : ce_D} (hw : kw a S σ0 g0 σ g) (hkz : kz ≤ 17) : ce_WP (ce_rl 2 300) mL_errors (kz) (6 * (kz)) 295 [some (.ref (a)), some (.long (nw (sK S) (sO S))), none, some (.int (nI (sK S 0 0))), some (.int (nI (sK S 0 1))), some (.int (nI (sK S 0 2))), none, none, none, none, none, none, none] [] σ g Q X := by
  have b9 := iv.ok.1.b
  refine ce_iconst (v := nI (1)) dL_errors_295 (by decide) ?_
  refine ce_goto (tgt := 300) dL_errors_296 (by decide) ?_
  refine ce_istore dL_errors_300 (Nat.le_of_ble_eq_true rfl) rfl ?_
  exact kk _ _ _ hw (by omega)
set_option maxHeartbeats 2000000 in
set_option maxRecDepth 20000 in
theorem er_6 {a : Nat} {S : ks_S} {σ0 : ce_S} {g0 : ce_D} (iv : kl_iv S) {Q : Option Value → ce_S → ce_D → Prop} {X : String → ce_S → ce_D → Prop} (kk : ∀ (kz : Nat) (σ : ce_S) (g : ce_D), kw a S σ0 g0 σ g → kz ≤ 19 → ce_WP (ce_rl 2 300) mL_errors (kz) (6 * (kz)) 337 [some (.ref (a)), some (.long (nw (sK S) (sO S))), none, some (.int (nI (sK S 0 0))), some (.int (nI (sK S 0 1))), some (.int (nI (sK S 0 2))), some (.int (nI (1))), none, none, none, none, none, none] [] σ g Q X) {kz : Nat} {σ : ce_S} {g : ce_D} (hw : kw a S σ0 g0 σ g) (hkz : kz ≤ 17) : ce_WP (ce_rl 2 300) mL_errors (kz) (6 * (kz)) 302 [some (.ref (a)), some (.long (nw (sK S) (sO S))), none, some (.int (nI (sK S 0 0))), some (.int (nI (sK S 0 1))), some (.int (nI (sK S 0 2))), some (.int (nI (1))), none, none, none, none, none, none] [] σ g Q X := by
  have b9 := iv.ok.1.b
  refine ce_iload dL_errors_302 rfl ?_
  refine ce_if_eqN (tgt := 517) dL_errors_304 (by decide) rfl (by omega) (fun c_304 => ?_) (fun c_304 => ?_)
  · omega
  · refine ce_aload_n dL_errors_307 rfl ?_
    refine ce_iconst (v := (-1)) dL_errors_308 (by decide) ?_
    refine kc_Wk dL_errors_309 hL_addMember kRL_144 (h_addMember_n2 ((-1)) hw (fun b hX hr => kl_of_x hr (m_X7_addMember_no a b S hX hr iv.ok ((-1)) 2 (by unfold kv_memF; exact if_pos (Or.inl (by decide))) (by decide) (by decide)))) rfl rfl (by decide) (Nat.le_of_ble_eq_true rfl) rfl (by show _ ≤ 300; omega) (fun cs1 cg1 hcg1 => ?_)
    refine ce_ldc2 dL_errors_312 kRL_17 ?_
    refine ce_lcmp (z := lg_cmp ((-9000000000000000002 : Int64)) ((-9000000000000000002 : Int64))) dL_errors_315 rfl ?_
    refine ce_if_neC (tgt := 517) dL_errors_316 (by decide) rfl (fun c_316 => ?_) (fun c_316 => ?_)
    · exact absurd rfl c_316
    · refine ce_iload_n dL_errors_319 rfl ?_
      refine ce_bipush (v := nI (6)) dL_errors_320 (by decide) ?_
      refine ce_icmp_ltN (tgt := 337) dL_errors_322 (by decide) rfl rfl (by omega) (by omega) (fun c_322 => ?_) (fun c_322 => ?_)
      · exact kk _ _ _ hcg1 (by omega)
      · refine ce_aload_n dL_errors_325 rfl ?_
        refine ce_iconst (v := nI (0)) dL_errors_326 (by decide) ?_
        refine kc_Wk dL_errors_327 hL_addMember kRL_144 (h_addMember_n3 (nI (0)) hcg1 (fun b hX hr => kl_of_x hr (m_X7_addMember_no a b S hX hr iv.ok (nI (0)) 3 (by unfold kv_memF; simp (disch := omega) only [ce_n, ce_in, nI_toInt, Int.toNat_natCast, true_or, ↓reduceIte]; (repeat' split) <;> first | rfl | omega) (by decide) (by decide)))) rfl rfl (by decide) (Nat.le_of_ble_eq_true rfl) rfl (by show _ ≤ 300; omega) (fun cs2 cg2 hcg2 => ?_)
        refine ce_ldc2 dL_errors_330 kRL_21 ?_
        refine ce_lcmp (z := lg_cmp ((-9000000000000000003 : Int64)) ((-9000000000000000003 : Int64))) dL_errors_333 rfl ?_
        refine ce_if_neC (tgt := 517) dL_errors_334 (by decide) rfl (fun c_334 => ?_) (fun c_334 => ?_)
        · exact absurd rfl c_334
        · exact kk _ _ _ hcg2 (by omega)
set_option maxHeartbeats 2000000 in
set_option maxRecDepth 20000 in
theorem er_7 {a : Nat} {S : ks_S} {σ0 : ce_S} {g0 : ce_D} (iv : kl_iv S) {Q : Option Value → ce_S → ce_D → Prop} {X : String → ce_S → ce_D → Prop} (kk : ∀ (kz : Nat) (σ : ce_S) (g : ce_D), kw a S σ0 g0 σ g → kz ≤ 21 → ce_WP (ce_rl 2 300) mL_errors (kz) (6 * (kz)) 371 [some (.ref (a)), some (.long (nw (sK S) (sO S))), none, some (.int (nI (sK S 0 0))), some (.int (nI (sK S 0 1))), some (.int (nI (sK S 0 2))), some (.int (nI (1))), none, none, none, none, none, none] [] σ g Q X) {kz : Nat} {σ : ce_S} {g : ce_D} (hw : kw a S σ0 g0 σ g) (hkz : kz ≤ 19) : ce_WP (ce_rl 2 300) mL_errors (kz) (6 * (kz)) 337 [some (.ref (a)), some (.long (nw (sK S) (sO S))), none, some (.int (nI (sK S 0 0))), some (.int (nI (sK S 0 1))), some (.int (nI (sK S 0 2))), some (.int (nI (1))), none, none, none, none, none, none] [] σ g Q X := by
  have b9 := iv.ok.1.b
  refine ce_aload_n dL_errors_337 rfl ?_
  refine ce_bipush (v := nI (100)) dL_errors_338 (by decide) ?_
  refine ce_iconst (v := nI (0)) dL_errors_340 (by decide) ?_
  refine kc_Wk dL_errors_341 hL_addWine kRL_146 (h_addWine_n2 (nI (100)) (nI (0)) hw (fun b hX hr => kl_of_x hr (m_X7_addWine_no a b S hX hr iv.ok (nI (100)) (nI (0)) 2 (by unfold kv_winF; simp (disch := omega) only [ce_n, ce_in, nI_toInt, Int.toNat_natCast, true_or, ↓reduceIte]; (repeat' split) <;> first | rfl | omega) (by decide) (by decide)))) rfl rfl (by decide) (Nat.le_of_ble_eq_true rfl) rfl (by show _ ≤ 300; omega) (fun cs1 cg1 hcg1 => ?_)
  refine ce_ldc2 dL_errors_344 kRL_17 ?_
  refine ce_lcmp (z := lg_cmp ((-9000000000000000002 : Int64)) ((-9000000000000000002 : Int64))) dL_errors_347 rfl ?_
  refine ce_if_neC (tgt := 517) dL_errors_348 (by decide) rfl (fun c_348 => ?_) (fun c_348 => ?_)
  · exact absurd rfl c_348
  · refine ce_iload dL_errors_351 rfl ?_
    refine ce_bipush (v := nI (6)) dL_errors_353 (by decide) ?_
    refine ce_icmp_ltN (tgt := 371) dL_errors_355 (by decide) rfl rfl (by omega) (by omega) (fun c_355 => ?_) (fun c_355 => ?_)
    · exact kk _ _ _ hcg1 (by omega)
    · refine ce_aload_n dL_errors_358 rfl ?_
      refine ce_iconst (v := nI (1)) dL_errors_359 (by decide) ?_
      refine ce_iconst (v := nI (0)) dL_errors_360 (by decide) ?_
      refine kc_Wk dL_errors_361 hL_addWine kRL_146 (h_addWine_n3 (nI (1)) (nI (0)) hcg1 (fun b hX hr => kl_of_x hr (m_X7_addWine_no a b S hX hr iv.ok (nI (1)) (nI (0)) 3 (by unfold kv_winF; simp (disch := omega) only [ce_n, ce_in, nI_toInt, Int.toNat_natCast, true_or, ↓reduceIte]; (repeat' split) <;> first | rfl | omega) (by decide) (by decide)))) rfl rfl (by decide) (Nat.le_of_ble_eq_true rfl) rfl (by show _ ≤ 300; omega) (fun cs2 cg2 hcg2 => ?_)
      refine ce_ldc2 dL_errors_364 kRL_21 ?_
      refine ce_lcmp (z := lg_cmp ((-9000000000000000003 : Int64)) ((-9000000000000000003 : Int64))) dL_errors_367 rfl ?_
      refine ce_if_neC (tgt := 517) dL_errors_368 (by decide) rfl (fun c_368 => ?_) (fun c_368 => ?_)
      · exact absurd rfl c_368
      · exact kk _ _ _ hcg2 (by omega)
set_option maxHeartbeats 2000000 in
set_option maxRecDepth 20000 in
theorem er_8 {a : Nat} {S : ks_S} {σ0 : ce_S} {g0 : ce_D} (iv : kl_iv S) {Q : Option Value → ce_S → ce_D → Prop} {X : String → ce_S → ce_D → Prop} (kk : ∀ (kz : Nat) (σ : ce_S) (g : ce_D), kw a S σ0 g0 σ g → kz ≤ 23 → ce_WP (ce_rl 2 300) mL_errors (kz) (6 * (kz)) 402 [some (.ref (a)), some (.long (nw (sK S) (sO S))), none, some (.int (nI (sK S 0 0))), some (.int (nI (sK S 0 1))), some (.int (nI (sK S 0 2))), some (.int (nI (1))), none, none, none, none, none, none] [] σ g Q X) {kz : Nat} {σ : ce_S} {g : ce_D} (hw : kw a S σ0 g0 σ g) (hkz : kz ≤ 21) : ce_WP (ce_rl 2 300) mL_errors (kz) (6 * (kz)) 371 [some (.ref (a)), some (.long (nw (sK S) (sO S))), none, some (.int (nI (sK S 0 0))), some (.int (nI (sK S 0 1))), some (.int (nI (sK S 0 2))), some (.int (nI (1))), none, none, none, none, none, none] [] σ g Q X := by
  have b9 := iv.ok.1.b
  refine ce_aload_n dL_errors_371 rfl ?_
  refine ce_iconst (v := nI (0)) dL_errors_372 (by decide) ?_
  refine kc_Wk dL_errors_373 hL_addBin kRL_148 (h_addBin_n2 (nI (0)) hw (fun b hX hr => kl_of_x hr (m_X7_addBin_no a b S hX hr iv.ok (nI (0)) 2 (by unfold kv_binF; simp (disch := omega) only [ce_n, ce_in, nI_toInt, Int.toNat_natCast, true_or, ↓reduceIte]; (repeat' split) <;> first | rfl | omega) (by decide) (by decide)))) rfl rfl (by decide) (Nat.le_of_ble_eq_true rfl) rfl (by show _ ≤ 300; omega) (fun cs1 cg1 hcg1 => ?_)
  refine ce_ldc2 dL_errors_376 kRL_17 ?_
  refine ce_lcmp (z := lg_cmp ((-9000000000000000002 : Int64)) ((-9000000000000000002 : Int64))) dL_errors_379 rfl ?_
  refine ce_if_neC (tgt := 517) dL_errors_380 (by decide) rfl (fun c_380 => ?_) (fun c_380 => ?_)
  · exact absurd rfl c_380
  · refine ce_iload dL_errors_383 rfl ?_
    refine ce_bipush (v := nI (8)) dL_errors_385 (by decide) ?_
    refine ce_icmp_ltN (tgt := 402) dL_errors_387 (by decide) rfl rfl (by omega) (by omega) (fun c_387 => ?_) (fun c_387 => ?_)
    · exact kk _ _ _ hcg1 (by omega)
    · refine ce_aload_n dL_errors_390 rfl ?_
      refine ce_iconst (v := nI (1)) dL_errors_391 (by decide) ?_
      refine kc_Wk dL_errors_392 hL_addBin kRL_148 (h_addBin_n3 (nI (1)) hcg1 (fun b hX hr => kl_of_x hr (m_X7_addBin_no a b S hX hr iv.ok (nI (1)) 3 (by unfold kv_binF; simp (disch := omega) only [ce_n, ce_in, nI_toInt, Int.toNat_natCast, true_or, ↓reduceIte]; (repeat' split) <;> first | rfl | omega) (by decide) (by decide)))) rfl rfl (by decide) (Nat.le_of_ble_eq_true rfl) rfl (by show _ ≤ 300; omega) (fun cs2 cg2 hcg2 => ?_)
      refine ce_ldc2 dL_errors_395 kRL_21 ?_
      refine ce_lcmp (z := lg_cmp ((-9000000000000000003 : Int64)) ((-9000000000000000003 : Int64))) dL_errors_398 rfl ?_
      refine ce_if_neC (tgt := 517) dL_errors_399 (by decide) rfl (fun c_399 => ?_) (fun c_399 => ?_)
      · exact absurd rfl c_399
      · exact kk _ _ _ hcg2 (by omega)
set_option maxHeartbeats 2000000 in
set_option maxRecDepth 20000 in
theorem er_9 {a : Nat} {S : ks_S} {σ0 : ce_S} {g0 : ce_D} (iv : kl_iv S) {Q : Option Value → ce_S → ce_D → Prop} {X : String → ce_S → ce_D → Prop} (kk : ∀ (kz : Nat) (σ : ce_S) (g : ce_D), kw a S σ0 g0 σ g → kz ≤ 31 → ce_WP (ce_rl 2 300) mL_errors (kz) (6 * (kz)) 523 [some (.ref (a)), some (.long (nw (sK S) (sO S))), none, some (.int (nI (sK S 0 0))), some (.int (nI (sK S 0 1))), some (.int (nI (sK S 0 2))), some (.int (nI (1))), some (.int (nI (0))), none, none, none, none, none] [] σ g Q X) {kz : Nat} {σ : ce_S} {g : ce_D} (hw : kw a S σ0 g0 σ g) (hkz : kz ≤ 23) : ce_WP (ce_rl 2 300) mL_errors (kz) (6 * (kz)) 402 [some (.ref (a)), some (.long (nw (sK S) (sO S))), none, some (.int (nI (sK S 0 0))), some (.int (nI (sK S 0 1))), some (.int (nI (sK S 0 2))), some (.int (nI (1))), none, none, none, none, none, none] [] σ g Q X := by
  have b9 := iv.ok.1.b
  refine ce_aload_n dL_errors_402 rfl ?_
  refine ce_iload_n dL_errors_403 rfl ?_
  refine ce_iconst (v := nI (0)) dL_errors_404 (by decide) ?_
  refine ce_bipush (v := nI (61)) dL_errors_405 (by decide) ?_
  refine kc_Wk dL_errors_407 hL_order kRL_137 (h_order_n1 (nI (sK S 0 0)) (nI (0)) (nI (61)) hw (fun b hX hr => kl_of_x hr (m_X7_order_no a b S hX hr iv.ok (nI (sK S 0 0)) (nI (0)) (nI (61)) 1 (by unfold kv_ordF; simp (disch := omega) only [ce_n, ce_in, nI_toInt, Int.toNat_natCast, true_or, ↓reduceIte]; (repeat' split) <;> first | rfl | omega) (by decide) (by decide)))) rfl rfl (by decide) (Nat.le_of_ble_eq_true rfl) rfl (by show _ ≤ 300; omega) (fun cs1 cg1 hcg1 => ?_)
  refine ce_ldc2 dL_errors_410 kRL_36 ?_
  refine ce_lcmp (z := lg_cmp ((-9000000000000000001 : Int64)) ((-9000000000000000001 : Int64))) dL_errors_413 rfl ?_
  refine ce_if_neC (tgt := 517) dL_errors_414 (by decide) rfl (fun c_414 => ?_) (fun c_414 => ?_)
  · exact absurd rfl c_414
  · refine ce_aload_n dL_errors_417 rfl ?_
    refine ce_iconst (v := nI (0)) dL_errors_418 (by decide) ?_
    refine ce_iload dL_errors_419 rfl ?_
    refine ce_bipush (v := nI (61)) dL_errors_421 (by decide) ?_
    refine kc_Wk dL_errors_423 hL_order kRL_137 (h_order_n1 (nI (0)) (nI (sK S 0 1)) (nI (61)) hcg1 (fun b hX hr => kl_of_x hr (m_X7_order_no a b S hX hr iv.ok (nI (0)) (nI (sK S 0 1)) (nI (61)) 1 (by unfold kv_ordF; simp (disch := omega) only [ce_n, ce_in, nI_toInt, Int.toNat_natCast, true_or, ↓reduceIte]; (repeat' split) <;> first | rfl | omega) (by decide) (by decide)))) rfl rfl (by decide) (Nat.le_of_ble_eq_true rfl) rfl (by show _ ≤ 300; omega) (fun cs2 cg2 hcg2 => ?_)
    refine ce_ldc2 dL_errors_426 kRL_36 ?_
    refine ce_lcmp (z := lg_cmp ((-9000000000000000001 : Int64)) ((-9000000000000000001 : Int64))) dL_errors_429 rfl ?_
    refine ce_if_neC (tgt := 517) dL_errors_430 (by decide) rfl (fun c_430 => ?_) (fun c_430 => ?_)
    · exact absurd rfl c_430
    · refine ce_aload_n dL_errors_433 rfl ?_
      refine ce_iload dL_errors_434 rfl ?_
      refine kc_Wk dL_errors_436 hL_allocate kRL_150 (h_allocate_n1 (nI (sK S 0 1)) hcg2 (fun b hX hr => kl_of_x hr (m_X7_allocate_no a b S hX hr iv.ok (nI (sK S 0 1)) 1 (by unfold kv_allF; simp (disch := omega) only [ce_n, ce_in, nI_toInt, Int.toNat_natCast, true_or, ↓reduceIte]; (repeat' split) <;> first | rfl | omega) (by decide) (by decide)))) rfl rfl (by decide) (Nat.le_of_ble_eq_true rfl) rfl (by show _ ≤ 300; omega) (fun cs3 cg3 hcg3 => ?_)
      refine ce_ldc2 dL_errors_439 kRL_36 ?_
      refine ce_lcmp (z := lg_cmp ((-9000000000000000001 : Int64)) ((-9000000000000000001 : Int64))) dL_errors_442 rfl ?_
      refine ce_if_neC (tgt := 517) dL_errors_443 (by decide) rfl (fun c_443 => ?_) (fun c_443 => ?_)
      · exact absurd rfl c_443
      · refine ce_aload_n dL_errors_446 rfl ?_
        refine ce_iconst (v := (-1)) dL_errors_447 (by decide) ?_
        refine kc_Wk dL_errors_448 hL_deliver kRL_152 (h_deliver_n1 ((-1)) hcg3 (fun b hX hr => kl_of_x hr (m_X7_deliver_no a b S hX hr iv.ok ((-1)) 1 (by unfold kv_delF; exact if_neg (fun z => absurd z.1 (by decide))) (by decide) (by decide)))) rfl rfl (by decide) (Nat.le_of_ble_eq_true rfl) rfl (by show _ ≤ 300; omega) (fun cs4 cg4 hcg4 => ?_)
        refine ce_ldc2 dL_errors_451 kRL_36 ?_
        refine ce_lcmp (z := lg_cmp ((-9000000000000000001 : Int64)) ((-9000000000000000001 : Int64))) dL_errors_454 rfl ?_
        refine ce_if_neC (tgt := 517) dL_errors_455 (by decide) rfl (fun c_455 => ?_) (fun c_455 => ?_)
        · exact absurd rfl c_455
        · refine ce_aload_n dL_errors_458 rfl ?_
          refine ce_iload_n dL_errors_459 rfl ?_
          refine ce_iconst (v := nI (0)) dL_errors_460 (by decide) ?_
          refine ce_iconst (v := nI (0)) dL_errors_461 (by decide) ?_
          refine kc_Wk dL_errors_462 hL_drink kRL_139 (h_drink_n1 (nI (sK S 0 0)) (nI (0)) (nI (0)) hcg4 (fun b hX hr => kl_of_x hr (m_X7_drink_no a b S hX hr iv.ok (nI (sK S 0 0)) (nI (0)) (nI (0)) 1 (by unfold kv_driF; simp (disch := omega) only [ce_n, ce_in, nI_toInt, Int.toNat_natCast, true_or, ↓reduceIte]; (repeat' split) <;> first | rfl | omega) (by decide) (by decide)))) rfl rfl (by decide) (Nat.le_of_ble_eq_true rfl) rfl (by show _ ≤ 300; omega) (fun cs5 cg5 hcg5 => ?_)
          refine ce_ldc2 dL_errors_465 kRL_36 ?_
          refine ce_lcmp (z := lg_cmp ((-9000000000000000001 : Int64)) ((-9000000000000000001 : Int64))) dL_errors_468 rfl ?_
          refine ce_if_neC (tgt := 517) dL_errors_469 (by decide) rfl (fun c_469 => ?_) (fun c_469 => ?_)
          · exact absurd rfl c_469
          · refine ce_aload_n dL_errors_472 rfl ?_
            refine ce_iconst (v := nI (0)) dL_errors_473 (by decide) ?_
            refine ce_iload_n dL_errors_474 rfl ?_
            refine ce_iconst (v := nI (0)) dL_errors_475 (by decide) ?_
            refine ce_iconst (v := nI (0)) dL_errors_476 (by decide) ?_
            refine kc_Wk dL_errors_477 hL_give kRL_141 (h_give_n1 (nI (0)) (nI (sK S 0 0)) (nI (0)) (nI (0)) hcg5 (fun b hX hr => kl_of_x hr (m_X7_give_no a b S hX hr iv.ok (nI (0)) (nI (sK S 0 0)) (nI (0)) (nI (0)) 1 (by unfold kv_gifF; simp (disch := omega) only [ce_n, ce_in, nI_toInt, Int.toNat_natCast, true_or, ↓reduceIte]; (repeat' split) <;> first | rfl | omega) (by decide) (by decide)))) rfl rfl (by decide) (Nat.le_of_ble_eq_true rfl) rfl (by show _ ≤ 300; omega) (fun cs6 cg6 hcg6 => ?_)
            refine ce_ldc2 dL_errors_480 kRL_36 ?_
            refine ce_lcmp (z := lg_cmp ((-9000000000000000001 : Int64)) ((-9000000000000000001 : Int64))) dL_errors_483 rfl ?_
            refine ce_if_neC (tgt := 517) dL_errors_484 (by decide) rfl (fun c_484 => ?_) (fun c_484 => ?_)
            · exact absurd rfl c_484
            · refine ce_aload_n dL_errors_487 rfl ?_
              refine ce_iconst (v := nI (0)) dL_errors_488 (by decide) ?_
              refine ce_iload dL_errors_489 rfl ?_
              refine kc_Wk dL_errors_491 hL_cork kRL_154 (h_cork_n1 (nI (0)) (nI (sK S 0 1)) hcg6 (fun b hX hr => kl_of_x hr (m_X7_cork_no a b S hX hr iv.ok (nI (0)) (nI (sK S 0 1)) 1 (by unfold kv_corF; simp (disch := omega) only [ce_n, ce_in, nI_toInt, Int.toNat_natCast, true_or, ↓reduceIte]; (repeat' split) <;> first | rfl | omega) (by decide) (by decide)))) rfl rfl (by decide) (Nat.le_of_ble_eq_true rfl) rfl (by show _ ≤ 300; omega) (fun cs7 cg7 hcg7 => ?_)
              refine ce_ldc2 dL_errors_494 kRL_36 ?_
              refine ce_lcmp (z := lg_cmp ((-9000000000000000001 : Int64)) ((-9000000000000000001 : Int64))) dL_errors_497 rfl ?_
              refine ce_if_neC (tgt := 517) dL_errors_498 (by decide) rfl (fun c_498 => ?_) (fun c_498 => ?_)
              · exact absurd rfl c_498
              · refine ce_aload_n dL_errors_501 rfl ?_
                refine ce_iload_n dL_errors_502 rfl ?_
                refine kc_Wk dL_errors_503 hL_pay kRL_156 (h_pay_n1 (nI (sK S 0 0)) hcg7 (fun b hX hr => kl_of_x hr (m_X7_pay_no a b S hX hr iv.ok (nI (sK S 0 0)) (by simp (disch := omega) only [ce_in, nI_toInt, Int.toNat_natCast]; omega)))) rfl rfl (by decide) (Nat.le_of_ble_eq_true rfl) rfl (by show _ ≤ 300; omega) (fun cs8 cg8 hcg8 => ?_)
                refine ce_ldc2 dL_errors_506 kRL_36 ?_
                refine ce_lcmp (z := lg_cmp ((-9000000000000000001 : Int64)) ((-9000000000000000001 : Int64))) dL_errors_509 rfl ?_
                refine ce_if_neC (tgt := 517) dL_errors_510 (by decide) rfl (fun c_510 => ?_) (fun c_510 => ?_)
                · exact absurd rfl c_510
                · refine ce_iconst (v := nI (1)) dL_errors_513 (by decide) ?_
                  refine ce_goto (tgt := 518) dL_errors_514 (by decide) ?_
                  refine ce_istore dL_errors_518 (Nat.le_of_ble_eq_true rfl) rfl ?_
                  refine ce_iconst (v := nI (0)) dL_errors_520 (by decide) ?_
                  refine ce_istore dL_errors_521 (Nat.le_of_ble_eq_true rfl) rfl ?_
                  exact kk _ _ _ hcg8 (by omega)
set_option maxHeartbeats 2000000 in
set_option maxRecDepth 20000 in
theorem er_i {a : Nat} {S : ks_S} {σ0 : ce_S} {g0 : ce_D} (iv : kl_iv S) {Q : Option Value → ce_S → ce_D → Prop} {X : String → ce_S → ce_D → Prop} {wz : Nat} (hwz : wz < sK S 0 1) (kk : ∀ (kz : Nat) (σ : ce_S) (g : ce_D), kw a S σ0 g0 σ g → kz ≤ 60 + 30 * wz + 25 → ce_WP (ce_rl 2 300) mL_errors (kz) (6 * (kz)) 790 [some (.ref (a)), some (.long (nw (sK S) (sO S))), none, some (.int (nI (sK S 0 0))), some (.int (nI (sK S 0 1))), some (.int (nI (sK S 0 2))), some (.int (nI (1))), some (.int (nI (wz))), none, none, none, none, none] [] σ g Q X) : ∀ (n9 iz kz : Nat) (σ : ce_S) (g : ce_D), kw a S σ0 g0 σ g → sK S 0 0 - iz < n9 → iz ≤ sK S 0 0 → kz ≤ 60 + 30 * wz + 4 + 3 * iz → ce_WP (ce_rl 2 300) mL_errors (kz) (6 * (kz)) 658 [some (.ref (a)), some (.long (nw (sK S) (sO S))), none, some (.int (nI (sK S 0 0))), some (.int (nI (sK S 0 1))), some (.int (nI (sK S 0 2))), some (.int (nI (1))), some (.int (nI (wz))), some (.long (lN (sK S 5 (wz)))), none, some (.int (nI (iz))), none, none] [] σ g Q X := by
  have b9 := iv.ok.1.b
  intro n9
  induction n9 with
  | zero =>
    intros
    omega
  | succ n9 ih =>
    intro iz kz σ g hw hm hi hkz
    refine ce_iload dL_errors_658 rfl ?_
    refine ce_iload_n dL_errors_660 rfl ?_
    refine ce_icmp_geN (tgt := 790) dL_errors_661 (by decide) rfl rfl (by omega) (by omega) (fun c_661 => ?_) (fun c_661 => ?_)
    · refine ce_drop (L' := [some (.ref (a)), some (.long (nw (sK S) (sO S))), none, some (.int (nI (sK S 0 0))), some (.int (nI (sK S 0 1))), some (.int (nI (sK S 0 2))), some (.int (nI (1))), some (.int (nI (wz))), none, none, none, none, none]) (ce_le_s rfl (ce_le_s rfl (ce_le_n (ce_le_s rfl (ce_le_s rfl (ce_le_s rfl (ce_le_s rfl (ce_le_s rfl (ce_le_n (ce_le_n (ce_le_n (ce_le_n (ce_le_n ce_le_e))))))))))))) ?_
      exact kk _ _ _ hw (by omega)
    · refine ce_iload dL_errors_664 rfl ?_
      refine ce_if_eqN (tgt := 790) dL_errors_666 (by decide) rfl (by omega) (fun c_666 => ?_) (fun c_666 => ?_)
      · omega
      · refine ce_aload_n dL_errors_669 rfl ?_
        refine ce_iload dL_errors_670 rfl ?_
        refine ce_iload dL_errors_672 rfl ?_
        refine ce_iconst (v := nI (2)) dL_errors_674 (by decide) ?_
        refine kc_Wj dL_errors_675 hL_has kRL_122 (q_has2 hw iv (m := iz) (w := wz) (by omega) (by omega)) rfl rfl (by decide) (Nat.le_of_ble_eq_true rfl) rfl (by show _ ≤ 300; omega) ?_
        refine ce_lstore dL_errors_678 (Nat.le_of_ble_eq_true rfl) rfl ?_
        have hl9 := iv.ok.1.le (m := iz) (w := wz) (by omega) (by omega)
        refine ce_lload dL_errors_680 rfl ?_
        refine ce_ldc2 (v := lN 59) dL_errors_682 kRL_166 ?_
        refine ce_lcmp (z := lg_cmp (lN (sK S 9 (iz * 6 + wz))) (lN (59))) dL_errors_685 rfl ?_
        refine ce_if_gtL (a := sK S 9 (iz * 6 + wz)) (b := 59) (tgt := 755) dL_errors_686 (by decide) rfl (by omega) (by omega) (fun c_686 => ?_) (fun c_686 => ?_)
        · refine ce_lload dL_errors_755 rfl ?_
          refine ce_lconst (v := lN 0) dL_errors_757 (by decide) ?_
          refine ce_lcmp (z := lg_cmp (lN (sK S 9 (iz * 6 + wz))) (lN (0))) dL_errors_758 rfl ?_
          refine ce_if_gtL (a := sK S 9 (iz * 6 + wz)) (b := 0) (tgt := 777) dL_errors_759 (by decide) rfl (by omega) (by omega) (fun c_759 => ?_) (fun c_759 => ?_)
          · refine ce_iconst (v := nI (1)) dL_errors_777 (by decide) ?_
            refine ce_goto (tgt := 782) dL_errors_778 (by decide) ?_
            refine ce_istore dL_errors_782 (Nat.le_of_ble_eq_true rfl) rfl ?_
            refine ce_iinc (v := nI (iz + 1)) dL_errors_784 rfl (ce_inc1 _) (Nat.le_of_ble_eq_true rfl) rfl ?_
            refine ce_goto (tgt := 658) dL_errors_787 (by decide) ?_
            refine ce_drop (L' := [some (.ref (a)), some (.long (nw (sK S) (sO S))), none, some (.int (nI (sK S 0 0))), some (.int (nI (sK S 0 1))), some (.int (nI (sK S 0 2))), some (.int (nI (1))), some (.int (nI (wz))), some (.long (lN (sK S 5 (wz)))), none, some (.int (nI (iz + 1))), none, none]) (ce_le_s rfl (ce_le_s rfl (ce_le_n (ce_le_s rfl (ce_le_s rfl (ce_le_s rfl (ce_le_s rfl (ce_le_s rfl (ce_le_s rfl (ce_le_n (ce_le_s rfl (ce_le_n (ce_le_n ce_le_e))))))))))))) ?_
            exact ih (iz + 1) _ _ _ hw (by omega) (by omega) (by omega)
          · refine ce_aload_n dL_errors_762 rfl ?_
            refine ce_iload dL_errors_763 rfl ?_
            refine ce_iload dL_errors_765 rfl ?_
            refine kc_Wk dL_errors_767 hL_cork kRL_154 (h_cork_n3 (nI (iz)) (nI (wz)) hw (fun b hX hr => kl_of_x hr (m_X7_cork_no a b S hX hr iv.ok (nI (iz)) (nI (wz)) 3 (by unfold kv_corF; simp (disch := omega) only [ce_n, ce_in, nI_toInt, Int.toNat_natCast, true_or, ↓reduceIte]; (repeat' split) <;> first | rfl | omega) (by decide) (by decide)))) rfl rfl (by decide) (Nat.le_of_ble_eq_true rfl) rfl (by show _ ≤ 300; omega) (fun cs1 cg1 hcg1 => ?_)
            refine ce_ldc2 dL_errors_770 kRL_21 ?_
            refine ce_lcmp (z := lg_cmp ((-9000000000000000003 : Int64)) ((-9000000000000000003 : Int64))) dL_errors_773 rfl ?_
            refine ce_if_neC (tgt := 781) dL_errors_774 (by decide) rfl (fun c_774 => ?_) (fun c_774 => ?_)
            · exact absurd rfl c_774
            · refine ce_iconst (v := nI (1)) dL_errors_777 (by decide) ?_
              refine ce_goto (tgt := 782) dL_errors_778 (by decide) ?_
              refine ce_istore dL_errors_782 (Nat.le_of_ble_eq_true rfl) rfl ?_
              refine ce_iinc (v := nI (iz + 1)) dL_errors_784 rfl (ce_inc1 _) (Nat.le_of_ble_eq_true rfl) rfl ?_
              refine ce_goto (tgt := 658) dL_errors_787 (by decide) ?_
              refine ce_drop (L' := [some (.ref (a)), some (.long (nw (sK S) (sO S))), none, some (.int (nI (sK S 0 0))), some (.int (nI (sK S 0 1))), some (.int (nI (sK S 0 2))), some (.int (nI (1))), some (.int (nI (wz))), some (.long (lN (sK S 5 (wz)))), none, some (.int (nI (iz + 1))), none, none]) (ce_le_s rfl (ce_le_s rfl (ce_le_n (ce_le_s rfl (ce_le_s rfl (ce_le_s rfl (ce_le_s rfl (ce_le_s rfl (ce_le_s rfl (ce_le_n (ce_le_s rfl (ce_le_n (ce_le_n ce_le_e))))))))))))) ?_
              exact ih (iz + 1) _ _ _ hcg1 (by omega) (by omega) (by omega)
        · refine ce_aload_n dL_errors_689 rfl ?_
          refine ce_iload dL_errors_690 rfl ?_
          refine ce_iload dL_errors_692 rfl ?_
          refine ce_lload dL_errors_694 rfl ?_
          refine ce_l2i (v := nI (sK S 9 (iz * 6 + wz))) dL_errors_696 (lN_i _) ?_
          refine ce_iconst (v := nI (1)) dL_errors_697 (by decide) ?_
          refine ce_iadd (z := nI (sK S 9 (iz * 6 + wz) + 1)) dL_errors_698 (nI_add _ _) ?_
          refine kc_Wk dL_errors_699 hL_drink kRL_139 (h_drink_n3 (nI (iz)) (nI (wz)) (nI (sK S 9 (iz * 6 + wz) + 1)) hw (fun b hX hr => kl_of_x hr (m_X7_drink_no a b S hX hr iv.ok (nI (iz)) (nI (wz)) (nI (sK S 9 (iz * 6 + wz) + 1)) 3 (by unfold kv_driF; simp (disch := omega) only [ce_n, ce_in, nI_toInt, Int.toNat_natCast, true_or, ↓reduceIte]; (repeat' split) <;> first | rfl | omega) (by decide) (by decide)))) rfl rfl (by decide) (Nat.le_of_ble_eq_true rfl) rfl (by show _ ≤ 300; omega) (fun cs1 cg1 hcg1 => ?_)
          refine ce_ldc2 dL_errors_702 kRL_21 ?_
          refine ce_lcmp (z := lg_cmp ((-9000000000000000003 : Int64)) ((-9000000000000000003 : Int64))) dL_errors_705 rfl ?_
          refine ce_if_neC (tgt := 781) dL_errors_706 (by decide) rfl (fun c_706 => ?_) (fun c_706 => ?_)
          · exact absurd rfl c_706
          · refine ce_aload_n dL_errors_709 rfl ?_
            refine ce_iload dL_errors_710 rfl ?_
            refine ce_iload dL_errors_712 rfl ?_
            refine ce_if_neN (tgt := 726) dL_errors_714 (by decide) rfl (by omega) (fun c_714 => ?_) (fun c_714 => ?_)
            · refine ce_iconst (v := nI (0)) dL_errors_726 (by decide) ?_
              refine ce_iload dL_errors_727 rfl ?_
              refine ce_lload dL_errors_729 rfl ?_
              refine ce_l2i (v := nI (sK S 9 (iz * 6 + wz))) dL_errors_731 (lN_i _) ?_
              refine ce_iconst (v := nI (1)) dL_errors_732 (by decide) ?_
              refine ce_iadd (z := nI (sK S 9 (iz * 6 + wz) + 1)) dL_errors_733 (nI_add _ _) ?_
              refine kc_Wk dL_errors_734 hL_give kRL_141 (h_give_n3 (nI (iz)) (nI (0)) (nI (wz)) (nI (sK S 9 (iz * 6 + wz) + 1)) hcg1 (fun b hX hr => kl_of_x hr (m_X7_give_no a b S hX hr iv.ok (nI (iz)) (nI (0)) (nI (wz)) (nI (sK S 9 (iz * 6 + wz) + 1)) 3 (by unfold kv_gifF; simp (disch := omega) only [ce_n, ce_in, nI_toInt, Int.toNat_natCast, true_or, ↓reduceIte]; (repeat' split) <;> first | rfl | omega) (by decide) (by decide)))) rfl rfl (by decide) (Nat.le_of_ble_eq_true rfl) rfl (by show _ ≤ 300; omega) (fun cs2 cg2 hcg2 => ?_)
              refine ce_iload_n dL_errors_737 rfl ?_
              refine ce_iconst (v := nI (1)) dL_errors_738 (by decide) ?_
              refine ce_icmp_neN (tgt := 748) dL_errors_739 (by decide) rfl rfl (by omega) (by omega) (fun c_739 => ?_) (fun c_739 => ?_)
              · refine ce_ldc2 dL_errors_748 kRL_21 ?_
                refine ce_lcmp (z := lg_cmp ((-9000000000000000003 : Int64)) ((-9000000000000000003 : Int64))) dL_errors_751 rfl ?_
                refine ce_if_neC (tgt := 781) dL_errors_752 (by decide) rfl (fun c_752 => ?_) (fun c_752 => ?_)
                · exact absurd rfl c_752
                · refine ce_lload dL_errors_755 rfl ?_
                  refine ce_lconst (v := lN 0) dL_errors_757 (by decide) ?_
                  refine ce_lcmp (z := lg_cmp (lN (sK S 9 (iz * 6 + wz))) (lN (0))) dL_errors_758 rfl ?_
                  refine ce_if_gtL (a := sK S 9 (iz * 6 + wz)) (b := 0) (tgt := 777) dL_errors_759 (by decide) rfl (by omega) (by omega) (fun c_759 => ?_) (fun c_759 => ?_)
                  · refine ce_iconst (v := nI (1)) dL_errors_777 (by decide) ?_
                    refine ce_goto (tgt := 782) dL_errors_778 (by decide) ?_
                    refine ce_istore dL_errors_782 (Nat.le_of_ble_eq_true rfl) rfl ?_
                    refine ce_iinc (v := nI (iz + 1)) dL_errors_784 rfl (ce_inc1 _) (Nat.le_of_ble_eq_true rfl) rfl ?_
                    refine ce_goto (tgt := 658) dL_errors_787 (by decide) ?_
                    refine ce_drop (L' := [some (.ref (a)), some (.long (nw (sK S) (sO S))), none, some (.int (nI (sK S 0 0))), some (.int (nI (sK S 0 1))), some (.int (nI (sK S 0 2))), some (.int (nI (1))), some (.int (nI (wz))), some (.long (lN (sK S 5 (wz)))), none, some (.int (nI (iz + 1))), none, none]) (ce_le_s rfl (ce_le_s rfl (ce_le_n (ce_le_s rfl (ce_le_s rfl (ce_le_s rfl (ce_le_s rfl (ce_le_s rfl (ce_le_s rfl (ce_le_n (ce_le_s rfl (ce_le_n (ce_le_n ce_le_e))))))))))))) ?_
                    exact ih (iz + 1) _ _ _ hcg2 (by omega) (by omega) (by omega)
                  · refine ce_aload_n dL_errors_762 rfl ?_
                    refine ce_iload dL_errors_763 rfl ?_
                    refine ce_iload dL_errors_765 rfl ?_
                    refine kc_Wk dL_errors_767 hL_cork kRL_154 (h_cork_n3 (nI (iz)) (nI (wz)) hcg2 (fun b hX hr => kl_of_x hr (m_X7_cork_no a b S hX hr iv.ok (nI (iz)) (nI (wz)) 3 (by unfold kv_corF; simp (disch := omega) only [ce_n, ce_in, nI_toInt, Int.toNat_natCast, true_or, ↓reduceIte]; (repeat' split) <;> first | rfl | omega) (by decide) (by decide)))) rfl rfl (by decide) (Nat.le_of_ble_eq_true rfl) rfl (by show _ ≤ 300; omega) (fun cs3 cg3 hcg3 => ?_)
                    refine ce_ldc2 dL_errors_770 kRL_21 ?_
                    refine ce_lcmp (z := lg_cmp ((-9000000000000000003 : Int64)) ((-9000000000000000003 : Int64))) dL_errors_773 rfl ?_
                    refine ce_if_neC (tgt := 781) dL_errors_774 (by decide) rfl (fun c_774 => ?_) (fun c_774 => ?_)
                    · exact absurd rfl c_774
                    · refine ce_iconst (v := nI (1)) dL_errors_777 (by decide) ?_
                      refine ce_goto (tgt := 782) dL_errors_778 (by decide) ?_
                      refine ce_istore dL_errors_782 (Nat.le_of_ble_eq_true rfl) rfl ?_
                      refine ce_iinc (v := nI (iz + 1)) dL_errors_784 rfl (ce_inc1 _) (Nat.le_of_ble_eq_true rfl) rfl ?_
                      refine ce_goto (tgt := 658) dL_errors_787 (by decide) ?_
                      refine ce_drop (L' := [some (.ref (a)), some (.long (nw (sK S) (sO S))), none, some (.int (nI (sK S 0 0))), some (.int (nI (sK S 0 1))), some (.int (nI (sK S 0 2))), some (.int (nI (1))), some (.int (nI (wz))), some (.long (lN (sK S 5 (wz)))), none, some (.int (nI (iz + 1))), none, none]) (ce_le_s rfl (ce_le_s rfl (ce_le_n (ce_le_s rfl (ce_le_s rfl (ce_le_s rfl (ce_le_s rfl (ce_le_s rfl (ce_le_s rfl (ce_le_n (ce_le_s rfl (ce_le_n (ce_le_n ce_le_e))))))))))))) ?_
                      exact ih (iz + 1) _ _ _ hcg3 (by omega) (by omega) (by omega)
              · omega
            · refine ce_iload_n dL_errors_717 rfl ?_
              refine ce_iconst (v := nI (1)) dL_errors_718 (by decide) ?_
              refine ce_icmp_leN (tgt := 726) dL_errors_719 (by decide) rfl rfl (by omega) (by omega) (fun c_719 => ?_) (fun c_719 => ?_)
              · refine ce_iconst (v := nI (0)) dL_errors_726 (by decide) ?_
                refine ce_iload dL_errors_727 rfl ?_
                refine ce_lload dL_errors_729 rfl ?_
                refine ce_l2i (v := nI (sK S 9 (iz * 6 + wz))) dL_errors_731 (lN_i _) ?_
                refine ce_iconst (v := nI (1)) dL_errors_732 (by decide) ?_
                refine ce_iadd (z := nI (sK S 9 (iz * 6 + wz) + 1)) dL_errors_733 (nI_add _ _) ?_
                refine kc_Wk dL_errors_734 hL_give kRL_141 (h_give_n2 (nI (iz)) (nI (0)) (nI (wz)) (nI (sK S 9 (iz * 6 + wz) + 1)) hcg1 (fun b hX hr => kl_of_x hr (m_X7_give_no a b S hX hr iv.ok (nI (iz)) (nI (0)) (nI (wz)) (nI (sK S 9 (iz * 6 + wz) + 1)) 2 (by unfold kv_gifF; simp (disch := omega) only [ce_n, ce_in, nI_toInt, Int.toNat_natCast, true_or, ↓reduceIte]; (repeat' split) <;> first | rfl | omega) (by decide) (by decide)))) rfl rfl (by decide) (Nat.le_of_ble_eq_true rfl) rfl (by show _ ≤ 300; omega) (fun cs2 cg2 hcg2 => ?_)
                refine ce_iload_n dL_errors_737 rfl ?_
                refine ce_iconst (v := nI (1)) dL_errors_738 (by decide) ?_
                refine ce_icmp_neN (tgt := 748) dL_errors_739 (by decide) rfl rfl (by omega) (by omega) (fun c_739 => ?_) (fun c_739 => ?_)
                · omega
                · refine ce_ldc2 dL_errors_742 kRL_17 ?_
                  refine ce_goto (tgt := 751) dL_errors_745 (by decide) ?_
                  refine ce_lcmp (z := lg_cmp ((-9000000000000000002 : Int64)) ((-9000000000000000002 : Int64))) dL_errors_751 rfl ?_
                  refine ce_if_neC (tgt := 781) dL_errors_752 (by decide) rfl (fun c_752 => ?_) (fun c_752 => ?_)
                  · exact absurd rfl c_752
                  · refine ce_lload dL_errors_755 rfl ?_
                    refine ce_lconst (v := lN 0) dL_errors_757 (by decide) ?_
                    refine ce_lcmp (z := lg_cmp (lN (sK S 9 (iz * 6 + wz))) (lN (0))) dL_errors_758 rfl ?_
                    refine ce_if_gtL (a := sK S 9 (iz * 6 + wz)) (b := 0) (tgt := 777) dL_errors_759 (by decide) rfl (by omega) (by omega) (fun c_759 => ?_) (fun c_759 => ?_)
                    · refine ce_iconst (v := nI (1)) dL_errors_777 (by decide) ?_
                      refine ce_goto (tgt := 782) dL_errors_778 (by decide) ?_
                      refine ce_istore dL_errors_782 (Nat.le_of_ble_eq_true rfl) rfl ?_
                      refine ce_iinc (v := nI (iz + 1)) dL_errors_784 rfl (ce_inc1 _) (Nat.le_of_ble_eq_true rfl) rfl ?_
                      refine ce_goto (tgt := 658) dL_errors_787 (by decide) ?_
                      refine ce_drop (L' := [some (.ref (a)), some (.long (nw (sK S) (sO S))), none, some (.int (nI (sK S 0 0))), some (.int (nI (sK S 0 1))), some (.int (nI (sK S 0 2))), some (.int (nI (1))), some (.int (nI (wz))), some (.long (lN (sK S 5 (wz)))), none, some (.int (nI (iz + 1))), none, none]) (ce_le_s rfl (ce_le_s rfl (ce_le_n (ce_le_s rfl (ce_le_s rfl (ce_le_s rfl (ce_le_s rfl (ce_le_s rfl (ce_le_s rfl (ce_le_n (ce_le_s rfl (ce_le_n (ce_le_n ce_le_e))))))))))))) ?_
                      exact ih (iz + 1) _ _ _ hcg2 (by omega) (by omega) (by omega)
                    · refine ce_aload_n dL_errors_762 rfl ?_
                      refine ce_iload dL_errors_763 rfl ?_
                      refine ce_iload dL_errors_765 rfl ?_
                      refine kc_Wk dL_errors_767 hL_cork kRL_154 (h_cork_n3 (nI (iz)) (nI (wz)) hcg2 (fun b hX hr => kl_of_x hr (m_X7_cork_no a b S hX hr iv.ok (nI (iz)) (nI (wz)) 3 (by unfold kv_corF; simp (disch := omega) only [ce_n, ce_in, nI_toInt, Int.toNat_natCast, true_or, ↓reduceIte]; (repeat' split) <;> first | rfl | omega) (by decide) (by decide)))) rfl rfl (by decide) (Nat.le_of_ble_eq_true rfl) rfl (by show _ ≤ 300; omega) (fun cs3 cg3 hcg3 => ?_)
                      refine ce_ldc2 dL_errors_770 kRL_21 ?_
                      refine ce_lcmp (z := lg_cmp ((-9000000000000000003 : Int64)) ((-9000000000000000003 : Int64))) dL_errors_773 rfl ?_
                      refine ce_if_neC (tgt := 781) dL_errors_774 (by decide) rfl (fun c_774 => ?_) (fun c_774 => ?_)
                      · exact absurd rfl c_774
                      · refine ce_iconst (v := nI (1)) dL_errors_777 (by decide) ?_
                        refine ce_goto (tgt := 782) dL_errors_778 (by decide) ?_
                        refine ce_istore dL_errors_782 (Nat.le_of_ble_eq_true rfl) rfl ?_
                        refine ce_iinc (v := nI (iz + 1)) dL_errors_784 rfl (ce_inc1 _) (Nat.le_of_ble_eq_true rfl) rfl ?_
                        refine ce_goto (tgt := 658) dL_errors_787 (by decide) ?_
                        refine ce_drop (L' := [some (.ref (a)), some (.long (nw (sK S) (sO S))), none, some (.int (nI (sK S 0 0))), some (.int (nI (sK S 0 1))), some (.int (nI (sK S 0 2))), some (.int (nI (1))), some (.int (nI (wz))), some (.long (lN (sK S 5 (wz)))), none, some (.int (nI (iz + 1))), none, none]) (ce_le_s rfl (ce_le_s rfl (ce_le_n (ce_le_s rfl (ce_le_s rfl (ce_le_s rfl (ce_le_s rfl (ce_le_s rfl (ce_le_s rfl (ce_le_n (ce_le_s rfl (ce_le_n (ce_le_n ce_le_e))))))))))))) ?_
                        exact ih (iz + 1) _ _ _ hcg3 (by omega) (by omega) (by omega)
              · refine ce_iconst (v := nI (1)) dL_errors_722 (by decide) ?_
                refine ce_goto (tgt := 727) dL_errors_723 (by decide) ?_
                refine ce_iload dL_errors_727 rfl ?_
                refine ce_lload dL_errors_729 rfl ?_
                refine ce_l2i (v := nI (sK S 9 (iz * 6 + wz))) dL_errors_731 (lN_i _) ?_
                refine ce_iconst (v := nI (1)) dL_errors_732 (by decide) ?_
                refine ce_iadd (z := nI (sK S 9 (iz * 6 + wz) + 1)) dL_errors_733 (nI_add _ _) ?_
                refine kc_Wk dL_errors_734 hL_give kRL_141 (h_give_n3 (nI (iz)) (nI (1)) (nI (wz)) (nI (sK S 9 (iz * 6 + wz) + 1)) hcg1 (fun b hX hr => kl_of_x hr (m_X7_give_no a b S hX hr iv.ok (nI (iz)) (nI (1)) (nI (wz)) (nI (sK S 9 (iz * 6 + wz) + 1)) 3 (by unfold kv_gifF; simp (disch := omega) only [ce_n, ce_in, nI_toInt, Int.toNat_natCast, true_or, ↓reduceIte]; (repeat' split) <;> first | rfl | omega) (by decide) (by decide)))) rfl rfl (by decide) (Nat.le_of_ble_eq_true rfl) rfl (by show _ ≤ 300; omega) (fun cs2 cg2 hcg2 => ?_)
                refine ce_iload_n dL_errors_737 rfl ?_
                refine ce_iconst (v := nI (1)) dL_errors_738 (by decide) ?_
                refine ce_icmp_neN (tgt := 748) dL_errors_739 (by decide) rfl rfl (by omega) (by omega) (fun c_739 => ?_) (fun c_739 => ?_)
                · refine ce_ldc2 dL_errors_748 kRL_21 ?_
                  refine ce_lcmp (z := lg_cmp ((-9000000000000000003 : Int64)) ((-9000000000000000003 : Int64))) dL_errors_751 rfl ?_
                  refine ce_if_neC (tgt := 781) dL_errors_752 (by decide) rfl (fun c_752 => ?_) (fun c_752 => ?_)
                  · exact absurd rfl c_752
                  · refine ce_lload dL_errors_755 rfl ?_
                    refine ce_lconst (v := lN 0) dL_errors_757 (by decide) ?_
                    refine ce_lcmp (z := lg_cmp (lN (sK S 9 (iz * 6 + wz))) (lN (0))) dL_errors_758 rfl ?_
                    refine ce_if_gtL (a := sK S 9 (iz * 6 + wz)) (b := 0) (tgt := 777) dL_errors_759 (by decide) rfl (by omega) (by omega) (fun c_759 => ?_) (fun c_759 => ?_)
                    · refine ce_iconst (v := nI (1)) dL_errors_777 (by decide) ?_
                      refine ce_goto (tgt := 782) dL_errors_778 (by decide) ?_
                      refine ce_istore dL_errors_782 (Nat.le_of_ble_eq_true rfl) rfl ?_
                      refine ce_iinc (v := nI (iz + 1)) dL_errors_784 rfl (ce_inc1 _) (Nat.le_of_ble_eq_true rfl) rfl ?_
                      refine ce_goto (tgt := 658) dL_errors_787 (by decide) ?_
                      refine ce_drop (L' := [some (.ref (a)), some (.long (nw (sK S) (sO S))), none, some (.int (nI (sK S 0 0))), some (.int (nI (sK S 0 1))), some (.int (nI (sK S 0 2))), some (.int (nI (1))), some (.int (nI (wz))), some (.long (lN (sK S 5 (wz)))), none, some (.int (nI (iz + 1))), none, none]) (ce_le_s rfl (ce_le_s rfl (ce_le_n (ce_le_s rfl (ce_le_s rfl (ce_le_s rfl (ce_le_s rfl (ce_le_s rfl (ce_le_s rfl (ce_le_n (ce_le_s rfl (ce_le_n (ce_le_n ce_le_e))))))))))))) ?_
                      exact ih (iz + 1) _ _ _ hcg2 (by omega) (by omega) (by omega)
                    · refine ce_aload_n dL_errors_762 rfl ?_
                      refine ce_iload dL_errors_763 rfl ?_
                      refine ce_iload dL_errors_765 rfl ?_
                      refine kc_Wk dL_errors_767 hL_cork kRL_154 (h_cork_n3 (nI (iz)) (nI (wz)) hcg2 (fun b hX hr => kl_of_x hr (m_X7_cork_no a b S hX hr iv.ok (nI (iz)) (nI (wz)) 3 (by unfold kv_corF; simp (disch := omega) only [ce_n, ce_in, nI_toInt, Int.toNat_natCast, true_or, ↓reduceIte]; (repeat' split) <;> first | rfl | omega) (by decide) (by decide)))) rfl rfl (by decide) (Nat.le_of_ble_eq_true rfl) rfl (by show _ ≤ 300; omega) (fun cs3 cg3 hcg3 => ?_)
                      refine ce_ldc2 dL_errors_770 kRL_21 ?_
                      refine ce_lcmp (z := lg_cmp ((-9000000000000000003 : Int64)) ((-9000000000000000003 : Int64))) dL_errors_773 rfl ?_
                      refine ce_if_neC (tgt := 781) dL_errors_774 (by decide) rfl (fun c_774 => ?_) (fun c_774 => ?_)
                      · exact absurd rfl c_774
                      · refine ce_iconst (v := nI (1)) dL_errors_777 (by decide) ?_
                        refine ce_goto (tgt := 782) dL_errors_778 (by decide) ?_
                        refine ce_istore dL_errors_782 (Nat.le_of_ble_eq_true rfl) rfl ?_
                        refine ce_iinc (v := nI (iz + 1)) dL_errors_784 rfl (ce_inc1 _) (Nat.le_of_ble_eq_true rfl) rfl ?_
                        refine ce_goto (tgt := 658) dL_errors_787 (by decide) ?_
                        refine ce_drop (L' := [some (.ref (a)), some (.long (nw (sK S) (sO S))), none, some (.int (nI (sK S 0 0))), some (.int (nI (sK S 0 1))), some (.int (nI (sK S 0 2))), some (.int (nI (1))), some (.int (nI (wz))), some (.long (lN (sK S 5 (wz)))), none, some (.int (nI (iz + 1))), none, none]) (ce_le_s rfl (ce_le_s rfl (ce_le_n (ce_le_s rfl (ce_le_s rfl (ce_le_s rfl (ce_le_s rfl (ce_le_s rfl (ce_le_s rfl (ce_le_n (ce_le_s rfl (ce_le_n (ce_le_n ce_le_e))))))))))))) ?_
                        exact ih (iz + 1) _ _ _ hcg3 (by omega) (by omega) (by omega)
                · omega
set_option maxHeartbeats 2000000 in
set_option maxRecDepth 20000 in
theorem er_k {a : Nat} {S : ks_S} {σ0 : ce_S} {g0 : ce_D} (iv : kl_iv S) {Q : Option Value → ce_S → ce_D → Prop} {X : String → ce_S → ce_D → Prop} (kk : ∀ (kz : Nat) (σ : ce_S) (g : ce_D), kw a S σ0 g0 σ g → kz ≤ 250 → ce_WP (ce_rl 2 300) mL_errors (kz) (6 * (kz)) 796 [some (.ref (a)), some (.long (nw (sK S) (sO S))), none, some (.int (nI (sK S 0 0))), some (.int (nI (sK S 0 1))), some (.int (nI (sK S 0 2))), some (.int (nI (1))), none, none, none, none, none, none] [] σ g Q X) : ∀ (n9 wz kz : Nat) (σ : ce_S) (g : ce_D), kw a S σ0 g0 σ g → sK S 0 1 - wz < n9 → wz ≤ sK S 0 1 → kz ≤ 60 + 30 * wz → ce_WP (ce_rl 2 300) mL_errors (kz) (6 * (kz)) 523 [some (.ref (a)), some (.long (nw (sK S) (sO S))), none, some (.int (nI (sK S 0 0))), some (.int (nI (sK S 0 1))), some (.int (nI (sK S 0 2))), some (.int (nI (1))), some (.int (nI (wz))), none, none, none, none, none] [] σ g Q X := by
  have b9 := iv.ok.1.b
  intro n9
  induction n9 with
  | zero =>
    intros
    omega
  | succ n9 ih =>
    intro wz kz σ g hw hm hi hkz
    refine ce_iload dL_errors_523 rfl ?_
    refine ce_iload dL_errors_525 rfl ?_
    refine ce_icmp_geN (tgt := 796) dL_errors_527 (by decide) rfl rfl (by omega) (by omega) (fun c_527 => ?_) (fun c_527 => ?_)
    · refine ce_drop (L' := [some (.ref (a)), some (.long (nw (sK S) (sO S))), none, some (.int (nI (sK S 0 0))), some (.int (nI (sK S 0 1))), some (.int (nI (sK S 0 2))), some (.int (nI (1))), none, none, none, none, none, none]) (ce_le_s rfl (ce_le_s rfl (ce_le_n (ce_le_s rfl (ce_le_s rfl (ce_le_s rfl (ce_le_s rfl (ce_le_n (ce_le_n (ce_le_n (ce_le_n (ce_le_n (ce_le_n ce_le_e))))))))))))) ?_
      exact kk _ _ _ hw (by omega)
    · refine ce_iload dL_errors_530 rfl ?_
      refine ce_if_eqN (tgt := 796) dL_errors_532 (by decide) rfl (by omega) (fun c_532 => ?_) (fun c_532 => ?_)
      · omega
      · refine ce_aload_n dL_errors_535 rfl ?_
        refine ce_iload dL_errors_536 rfl ?_
        refine ce_iconst (v := nI (3)) dL_errors_538 (by decide) ?_
        refine kc_Wj dL_errors_539 hL_wine kRL_127 (q_wine3 hw iv (w := wz) (by omega)) rfl rfl (by decide) (Nat.le_of_ble_eq_true rfl) rfl (by show _ ≤ 300; omega) ?_
        refine ce_lstore dL_errors_542 (Nat.le_of_ble_eq_true rfl) rfl ?_
        have hb5 := iv.ok.1.st wz
        have hbr := iv.ok.1.bro wz
        have hbo := iv.ok.1.bo wz (by omega)
        refine ce_lload dL_errors_544 rfl ?_
        refine ce_lconst (v := lN 0) dL_errors_546 (by decide) ?_
        refine ce_lcmp (z := lg_cmp (lN (sK S 5 (wz))) (lN (0))) dL_errors_547 rfl ?_
        refine ce_if_eqL (a := sK S 5 (wz)) (b := 0) (tgt := 610) dL_errors_548 (by decide) rfl (by omega) (by omega) (fun c_548 => ?_) (fun c_548 => ?_)
        · refine ce_lload dL_errors_610 rfl ?_
          refine ce_lconst (v := lN 1) dL_errors_612 (by decide) ?_
          refine ce_lcmp (z := lg_cmp (lN (sK S 5 (wz))) (lN (1))) dL_errors_613 rfl ?_
          refine ce_if_neL (a := sK S 5 (wz)) (b := 1) (tgt := 635) dL_errors_614 (by decide) rfl (by omega) (by omega) (fun c_614 => ?_) (fun c_614 => ?_)
          · refine ce_aload_n dL_errors_635 rfl ?_
            refine ce_iload dL_errors_636 rfl ?_
            refine kc_Wk dL_errors_638 hL_deliver kRL_152 (h_deliver_n3 (nI (wz)) hw (fun b hX hr => kl_of_x hr (m_X7_deliver_no a b S hX hr iv.ok (nI (wz)) 3 (by unfold kv_delF; simp (disch := omega) only [ce_n, ce_in, nI_toInt, Int.toNat_natCast, true_or, ↓reduceIte]; (repeat' split) <;> first | rfl | omega) (by decide) (by decide)))) rfl rfl (by decide) (Nat.le_of_ble_eq_true rfl) rfl (by show _ ≤ 300; omega) (fun cs1 cg1 hcg1 => ?_)
            refine ce_ldc2 dL_errors_641 kRL_21 ?_
            refine ce_lcmp (z := lg_cmp ((-9000000000000000003 : Int64)) ((-9000000000000000003 : Int64))) dL_errors_644 rfl ?_
            refine ce_if_neC (tgt := 652) dL_errors_645 (by decide) rfl (fun c_645 => ?_) (fun c_645 => ?_)
            · exact absurd rfl c_645
            · refine ce_iconst (v := nI (1)) dL_errors_648 (by decide) ?_
              refine ce_goto (tgt := 653) dL_errors_649 (by decide) ?_
              refine ce_istore dL_errors_653 (Nat.le_of_ble_eq_true rfl) rfl ?_
              refine ce_iconst (v := nI (0)) dL_errors_655 (by decide) ?_
              refine ce_istore dL_errors_656 (Nat.le_of_ble_eq_true rfl) rfl ?_
              refine er_i iv (wz := wz) (by omega) (fun kz2 σ2 g2 hw2 hk2 => ?_) (sK S 0 0 + 1) 0 _ _ _ hcg1 (by omega) (by omega) (by omega)
              refine ce_iinc (v := nI (wz + 1)) dL_errors_790 rfl (ce_inc1 _) (Nat.le_of_ble_eq_true rfl) rfl ?_
              refine ce_goto (tgt := 523) dL_errors_793 (by decide) ?_
              exact ih (wz + 1) _ _ _ hw2 (by omega) (by omega) (by omega)
          · refine ce_aload_n dL_errors_617 rfl ?_
            refine ce_iload dL_errors_618 rfl ?_
            refine kc_Wj dL_errors_620 hL_roomFor kRL_164 (q_room hw iv (w := wz) (by omega)) rfl rfl (by decide) (Nat.le_of_ble_eq_true rfl) rfl (by show _ ≤ 300; omega) ?_
            refine ce_aload_n dL_errors_623 rfl ?_
            refine ce_iload dL_errors_624 rfl ?_
            refine ce_bipush (v := nI (7)) dL_errors_626 (by decide) ?_
            refine kc_Wj dL_errors_628 hL_wine kRL_127 (q_wine7 hw iv (w := wz) (by omega)) rfl rfl (by decide) (Nat.le_of_ble_eq_true rfl) rfl (by show _ ≤ 300; omega) ?_
            refine ce_lcmp (z := lg_cmp (lN (ce_sum (kv_room (sK S) (wz)) (sK S 0 2))) (lN (kv_sum (sK S) 8 (wz)))) dL_errors_631 rfl ?_
            refine ce_if_geL (a := ce_sum (kv_room (sK S) (wz)) (sK S 0 2)) (b := kv_sum (sK S) 8 (wz)) (tgt := 648) dL_errors_632 (by decide) rfl (by omega) (by omega) (fun c_632 => ?_) (fun c_632 => ?_)
            · refine ce_iconst (v := nI (1)) dL_errors_648 (by decide) ?_
              refine ce_goto (tgt := 653) dL_errors_649 (by decide) ?_
              refine ce_istore dL_errors_653 (Nat.le_of_ble_eq_true rfl) rfl ?_
              refine ce_iconst (v := nI (0)) dL_errors_655 (by decide) ?_
              refine ce_istore dL_errors_656 (Nat.le_of_ble_eq_true rfl) rfl ?_
              refine er_i iv (wz := wz) (by omega) (fun kz2 σ2 g2 hw2 hk2 => ?_) (sK S 0 0 + 1) 0 _ _ _ hw (by omega) (by omega) (by omega)
              refine ce_iinc (v := nI (wz + 1)) dL_errors_790 rfl (ce_inc1 _) (Nat.le_of_ble_eq_true rfl) rfl ?_
              refine ce_goto (tgt := 523) dL_errors_793 (by decide) ?_
              exact ih (wz + 1) _ _ _ hw2 (by omega) (by omega) (by omega)
            · refine ce_aload_n dL_errors_635 rfl ?_
              refine ce_iload dL_errors_636 rfl ?_
              refine kc_Wk dL_errors_638 hL_deliver kRL_152 (h_deliver_n3 (nI (wz)) hw (fun b hX hr => kl_of_x hr (m_X7_deliver_no a b S hX hr iv.ok (nI (wz)) 3 (by unfold kv_delF; simp (disch := omega) only [ce_n, ce_in, nI_toInt, Int.toNat_natCast, true_or, ↓reduceIte]; (repeat' split) <;> first | rfl | omega) (by decide) (by decide)))) rfl rfl (by decide) (Nat.le_of_ble_eq_true rfl) rfl (by show _ ≤ 300; omega) (fun cs1 cg1 hcg1 => ?_)
              refine ce_ldc2 dL_errors_641 kRL_21 ?_
              refine ce_lcmp (z := lg_cmp ((-9000000000000000003 : Int64)) ((-9000000000000000003 : Int64))) dL_errors_644 rfl ?_
              refine ce_if_neC (tgt := 652) dL_errors_645 (by decide) rfl (fun c_645 => ?_) (fun c_645 => ?_)
              · exact absurd rfl c_645
              · refine ce_iconst (v := nI (1)) dL_errors_648 (by decide) ?_
                refine ce_goto (tgt := 653) dL_errors_649 (by decide) ?_
                refine ce_istore dL_errors_653 (Nat.le_of_ble_eq_true rfl) rfl ?_
                refine ce_iconst (v := nI (0)) dL_errors_655 (by decide) ?_
                refine ce_istore dL_errors_656 (Nat.le_of_ble_eq_true rfl) rfl ?_
                refine er_i iv (wz := wz) (by omega) (fun kz2 σ2 g2 hw2 hk2 => ?_) (sK S 0 0 + 1) 0 _ _ _ hcg1 (by omega) (by omega) (by omega)
                refine ce_iinc (v := nI (wz + 1)) dL_errors_790 rfl (ce_inc1 _) (Nat.le_of_ble_eq_true rfl) rfl ?_
                refine ce_goto (tgt := 523) dL_errors_793 (by decide) ?_
                exact ih (wz + 1) _ _ _ hw2 (by omega) (by omega) (by omega)
        · refine ce_aload_n dL_errors_551 rfl ?_
          refine ce_iload dL_errors_552 rfl ?_
          refine kc_Wk dL_errors_554 hL_allocate kRL_150 (h_allocate_n3 (nI (wz)) hw (fun b hX hr => kl_of_x hr (m_X7_allocate_no a b S hX hr iv.ok (nI (wz)) 3 (by unfold kv_allF; simp (disch := omega) only [ce_n, ce_in, nI_toInt, Int.toNat_natCast, true_or, ↓reduceIte]; (repeat' split) <;> first | rfl | omega) (by decide) (by decide)))) rfl rfl (by decide) (Nat.le_of_ble_eq_true rfl) rfl (by show _ ≤ 300; omega) (fun cs1 cg1 hcg1 => ?_)
          refine ce_ldc2 dL_errors_557 kRL_21 ?_
          refine ce_lcmp (z := lg_cmp ((-9000000000000000003 : Int64)) ((-9000000000000000003 : Int64))) dL_errors_560 rfl ?_
          refine ce_if_neC (tgt := 652) dL_errors_561 (by decide) rfl (fun c_561 => ?_) (fun c_561 => ?_)
          · exact absurd rfl c_561
          · refine ce_iload_n dL_errors_564 rfl ?_
            refine ce_if_eqN (tgt := 597) dL_errors_565 (by decide) rfl (by omega) (fun c_565 => ?_) (fun c_565 => ?_)
            · refine ce_aload_n dL_errors_597 rfl ?_
              refine ce_iload dL_errors_598 rfl ?_
              refine kc_Wj dL_errors_600 hL_shortest kRL_162 (q_sh0 hcg1 iv (w := wz) (by omega) (by omega)) rfl rfl (by decide) (Nat.le_of_ble_eq_true rfl) rfl (by show _ ≤ 300; omega) ?_
              refine ce_ldc2 dL_errors_603 kRL_160 ?_
              refine ce_lcmp (z := lg_cmp ((-99999 : Int64)) ((-99999 : Int64))) dL_errors_606 rfl ?_
              refine ce_if_neC (tgt := 652) dL_errors_607 (by decide) rfl (fun c_607 => ?_) (fun c_607 => ?_)
              · exact absurd rfl c_607
              · refine ce_lload dL_errors_610 rfl ?_
                refine ce_lconst (v := lN 1) dL_errors_612 (by decide) ?_
                refine ce_lcmp (z := lg_cmp (lN (sK S 5 (wz))) (lN (1))) dL_errors_613 rfl ?_
                refine ce_if_neL (a := sK S 5 (wz)) (b := 1) (tgt := 635) dL_errors_614 (by decide) rfl (by omega) (by omega) (fun c_614 => ?_) (fun c_614 => ?_)
                · refine ce_aload_n dL_errors_635 rfl ?_
                  refine ce_iload dL_errors_636 rfl ?_
                  refine kc_Wk dL_errors_638 hL_deliver kRL_152 (h_deliver_n3 (nI (wz)) hcg1 (fun b hX hr => kl_of_x hr (m_X7_deliver_no a b S hX hr iv.ok (nI (wz)) 3 (by unfold kv_delF; simp (disch := omega) only [ce_n, ce_in, nI_toInt, Int.toNat_natCast, true_or, ↓reduceIte]; (repeat' split) <;> first | rfl | omega) (by decide) (by decide)))) rfl rfl (by decide) (Nat.le_of_ble_eq_true rfl) rfl (by show _ ≤ 300; omega) (fun cs2 cg2 hcg2 => ?_)
                  refine ce_ldc2 dL_errors_641 kRL_21 ?_
                  refine ce_lcmp (z := lg_cmp ((-9000000000000000003 : Int64)) ((-9000000000000000003 : Int64))) dL_errors_644 rfl ?_
                  refine ce_if_neC (tgt := 652) dL_errors_645 (by decide) rfl (fun c_645 => ?_) (fun c_645 => ?_)
                  · exact absurd rfl c_645
                  · refine ce_iconst (v := nI (1)) dL_errors_648 (by decide) ?_
                    refine ce_goto (tgt := 653) dL_errors_649 (by decide) ?_
                    refine ce_istore dL_errors_653 (Nat.le_of_ble_eq_true rfl) rfl ?_
                    refine ce_iconst (v := nI (0)) dL_errors_655 (by decide) ?_
                    refine ce_istore dL_errors_656 (Nat.le_of_ble_eq_true rfl) rfl ?_
                    refine er_i iv (wz := wz) (by omega) (fun kz2 σ2 g2 hw2 hk2 => ?_) (sK S 0 0 + 1) 0 _ _ _ hcg2 (by omega) (by omega) (by omega)
                    refine ce_iinc (v := nI (wz + 1)) dL_errors_790 rfl (ce_inc1 _) (Nat.le_of_ble_eq_true rfl) rfl ?_
                    refine ce_goto (tgt := 523) dL_errors_793 (by decide) ?_
                    exact ih (wz + 1) _ _ _ hw2 (by omega) (by omega) (by omega)
                · refine ce_aload_n dL_errors_617 rfl ?_
                  refine ce_iload dL_errors_618 rfl ?_
                  refine kc_Wj dL_errors_620 hL_roomFor kRL_164 (q_room hcg1 iv (w := wz) (by omega)) rfl rfl (by decide) (Nat.le_of_ble_eq_true rfl) rfl (by show _ ≤ 300; omega) ?_
                  refine ce_aload_n dL_errors_623 rfl ?_
                  refine ce_iload dL_errors_624 rfl ?_
                  refine ce_bipush (v := nI (7)) dL_errors_626 (by decide) ?_
                  refine kc_Wj dL_errors_628 hL_wine kRL_127 (q_wine7 hcg1 iv (w := wz) (by omega)) rfl rfl (by decide) (Nat.le_of_ble_eq_true rfl) rfl (by show _ ≤ 300; omega) ?_
                  refine ce_lcmp (z := lg_cmp (lN (ce_sum (kv_room (sK S) (wz)) (sK S 0 2))) (lN (kv_sum (sK S) 8 (wz)))) dL_errors_631 rfl ?_
                  refine ce_if_geL (a := ce_sum (kv_room (sK S) (wz)) (sK S 0 2)) (b := kv_sum (sK S) 8 (wz)) (tgt := 648) dL_errors_632 (by decide) rfl (by omega) (by omega) (fun c_632 => ?_) (fun c_632 => ?_)
                  · refine ce_iconst (v := nI (1)) dL_errors_648 (by decide) ?_
                    refine ce_goto (tgt := 653) dL_errors_649 (by decide) ?_
                    refine ce_istore dL_errors_653 (Nat.le_of_ble_eq_true rfl) rfl ?_
                    refine ce_iconst (v := nI (0)) dL_errors_655 (by decide) ?_
                    refine ce_istore dL_errors_656 (Nat.le_of_ble_eq_true rfl) rfl ?_
                    refine er_i iv (wz := wz) (by omega) (fun kz2 σ2 g2 hw2 hk2 => ?_) (sK S 0 0 + 1) 0 _ _ _ hcg1 (by omega) (by omega) (by omega)
                    refine ce_iinc (v := nI (wz + 1)) dL_errors_790 rfl (ce_inc1 _) (Nat.le_of_ble_eq_true rfl) rfl ?_
                    refine ce_goto (tgt := 523) dL_errors_793 (by decide) ?_
                    exact ih (wz + 1) _ _ _ hw2 (by omega) (by omega) (by omega)
                  · refine ce_aload_n dL_errors_635 rfl ?_
                    refine ce_iload dL_errors_636 rfl ?_
                    refine kc_Wk dL_errors_638 hL_deliver kRL_152 (h_deliver_n3 (nI (wz)) hcg1 (fun b hX hr => kl_of_x hr (m_X7_deliver_no a b S hX hr iv.ok (nI (wz)) 3 (by unfold kv_delF; simp (disch := omega) only [ce_n, ce_in, nI_toInt, Int.toNat_natCast, true_or, ↓reduceIte]; (repeat' split) <;> first | rfl | omega) (by decide) (by decide)))) rfl rfl (by decide) (Nat.le_of_ble_eq_true rfl) rfl (by show _ ≤ 300; omega) (fun cs2 cg2 hcg2 => ?_)
                    refine ce_ldc2 dL_errors_641 kRL_21 ?_
                    refine ce_lcmp (z := lg_cmp ((-9000000000000000003 : Int64)) ((-9000000000000000003 : Int64))) dL_errors_644 rfl ?_
                    refine ce_if_neC (tgt := 652) dL_errors_645 (by decide) rfl (fun c_645 => ?_) (fun c_645 => ?_)
                    · exact absurd rfl c_645
                    · refine ce_iconst (v := nI (1)) dL_errors_648 (by decide) ?_
                      refine ce_goto (tgt := 653) dL_errors_649 (by decide) ?_
                      refine ce_istore dL_errors_653 (Nat.le_of_ble_eq_true rfl) rfl ?_
                      refine ce_iconst (v := nI (0)) dL_errors_655 (by decide) ?_
                      refine ce_istore dL_errors_656 (Nat.le_of_ble_eq_true rfl) rfl ?_
                      refine er_i iv (wz := wz) (by omega) (fun kz2 σ2 g2 hw2 hk2 => ?_) (sK S 0 0 + 1) 0 _ _ _ hcg2 (by omega) (by omega) (by omega)
                      refine ce_iinc (v := nI (wz + 1)) dL_errors_790 rfl (ce_inc1 _) (Nat.le_of_ble_eq_true rfl) rfl ?_
                      refine ce_goto (tgt := 523) dL_errors_793 (by decide) ?_
                      exact ih (wz + 1) _ _ _ hw2 (by omega) (by omega) (by omega)
            · refine ce_aload_n dL_errors_568 rfl ?_
              refine ce_iconst (v := nI (0)) dL_errors_569 (by decide) ?_
              refine ce_iload dL_errors_570 rfl ?_
              refine ce_iconst (v := nI (1)) dL_errors_572 (by decide) ?_
              refine kc_Wk dL_errors_573 hL_order kRL_137 (h_order_n3 (nI (0)) (nI (wz)) (nI (1)) hcg1 (fun b hX hr => kl_of_x hr (m_X7_order_no a b S hX hr iv.ok (nI (0)) (nI (wz)) (nI (1)) 3 (by unfold kv_ordF; simp (disch := omega) only [ce_n, ce_in, nI_toInt, Int.toNat_natCast, true_or, ↓reduceIte]; (repeat' split) <;> first | rfl | omega) (by decide) (by decide)))) rfl rfl (by decide) (Nat.le_of_ble_eq_true rfl) rfl (by show _ ≤ 300; omega) (fun cs2 cg2 hcg2 => ?_)
              refine ce_ldc2 dL_errors_576 kRL_21 ?_
              refine ce_lcmp (z := lg_cmp ((-9000000000000000003 : Int64)) ((-9000000000000000003 : Int64))) dL_errors_579 rfl ?_
              refine ce_if_neC (tgt := 652) dL_errors_580 (by decide) rfl (fun c_580 => ?_) (fun c_580 => ?_)
              · exact absurd rfl c_580
              · refine ce_aload_n dL_errors_583 rfl ?_
                refine ce_iconst (v := nI (0)) dL_errors_584 (by decide) ?_
                refine ce_iload dL_errors_585 rfl ?_
                refine kc_Wj dL_errors_587 hL_wouldGet kRL_158 (q_wg0 hcg2 iv (m := 0) (w := wz) (by omega) (by omega) (by omega)) rfl rfl (by decide) (Nat.le_of_ble_eq_true rfl) rfl (by show _ ≤ 300; omega) ?_
                refine ce_ldc2 dL_errors_590 kRL_160 ?_
                refine ce_lcmp (z := lg_cmp ((-99999 : Int64)) ((-99999 : Int64))) dL_errors_593 rfl ?_
                refine ce_if_neC (tgt := 652) dL_errors_594 (by decide) rfl (fun c_594 => ?_) (fun c_594 => ?_)
                · exact absurd rfl c_594
                · refine ce_aload_n dL_errors_597 rfl ?_
                  refine ce_iload dL_errors_598 rfl ?_
                  refine kc_Wj dL_errors_600 hL_shortest kRL_162 (q_sh0 hcg2 iv (w := wz) (by omega) (by omega)) rfl rfl (by decide) (Nat.le_of_ble_eq_true rfl) rfl (by show _ ≤ 300; omega) ?_
                  refine ce_ldc2 dL_errors_603 kRL_160 ?_
                  refine ce_lcmp (z := lg_cmp ((-99999 : Int64)) ((-99999 : Int64))) dL_errors_606 rfl ?_
                  refine ce_if_neC (tgt := 652) dL_errors_607 (by decide) rfl (fun c_607 => ?_) (fun c_607 => ?_)
                  · exact absurd rfl c_607
                  · refine ce_lload dL_errors_610 rfl ?_
                    refine ce_lconst (v := lN 1) dL_errors_612 (by decide) ?_
                    refine ce_lcmp (z := lg_cmp (lN (sK S 5 (wz))) (lN (1))) dL_errors_613 rfl ?_
                    refine ce_if_neL (a := sK S 5 (wz)) (b := 1) (tgt := 635) dL_errors_614 (by decide) rfl (by omega) (by omega) (fun c_614 => ?_) (fun c_614 => ?_)
                    · refine ce_aload_n dL_errors_635 rfl ?_
                      refine ce_iload dL_errors_636 rfl ?_
                      refine kc_Wk dL_errors_638 hL_deliver kRL_152 (h_deliver_n3 (nI (wz)) hcg2 (fun b hX hr => kl_of_x hr (m_X7_deliver_no a b S hX hr iv.ok (nI (wz)) 3 (by unfold kv_delF; simp (disch := omega) only [ce_n, ce_in, nI_toInt, Int.toNat_natCast, true_or, ↓reduceIte]; (repeat' split) <;> first | rfl | omega) (by decide) (by decide)))) rfl rfl (by decide) (Nat.le_of_ble_eq_true rfl) rfl (by show _ ≤ 300; omega) (fun cs3 cg3 hcg3 => ?_)
                      refine ce_ldc2 dL_errors_641 kRL_21 ?_
                      refine ce_lcmp (z := lg_cmp ((-9000000000000000003 : Int64)) ((-9000000000000000003 : Int64))) dL_errors_644 rfl ?_
                      refine ce_if_neC (tgt := 652) dL_errors_645 (by decide) rfl (fun c_645 => ?_) (fun c_645 => ?_)
                      · exact absurd rfl c_645
                      · refine ce_iconst (v := nI (1)) dL_errors_648 (by decide) ?_
                        refine ce_goto (tgt := 653) dL_errors_649 (by decide) ?_
                        refine ce_istore dL_errors_653 (Nat.le_of_ble_eq_true rfl) rfl ?_
                        refine ce_iconst (v := nI (0)) dL_errors_655 (by decide) ?_
                        refine ce_istore dL_errors_656 (Nat.le_of_ble_eq_true rfl) rfl ?_
                        refine er_i iv (wz := wz) (by omega) (fun kz2 σ2 g2 hw2 hk2 => ?_) (sK S 0 0 + 1) 0 _ _ _ hcg3 (by omega) (by omega) (by omega)
                        refine ce_iinc (v := nI (wz + 1)) dL_errors_790 rfl (ce_inc1 _) (Nat.le_of_ble_eq_true rfl) rfl ?_
                        refine ce_goto (tgt := 523) dL_errors_793 (by decide) ?_
                        exact ih (wz + 1) _ _ _ hw2 (by omega) (by omega) (by omega)
                    · refine ce_aload_n dL_errors_617 rfl ?_
                      refine ce_iload dL_errors_618 rfl ?_
                      refine kc_Wj dL_errors_620 hL_roomFor kRL_164 (q_room hcg2 iv (w := wz) (by omega)) rfl rfl (by decide) (Nat.le_of_ble_eq_true rfl) rfl (by show _ ≤ 300; omega) ?_
                      refine ce_aload_n dL_errors_623 rfl ?_
                      refine ce_iload dL_errors_624 rfl ?_
                      refine ce_bipush (v := nI (7)) dL_errors_626 (by decide) ?_
                      refine kc_Wj dL_errors_628 hL_wine kRL_127 (q_wine7 hcg2 iv (w := wz) (by omega)) rfl rfl (by decide) (Nat.le_of_ble_eq_true rfl) rfl (by show _ ≤ 300; omega) ?_
                      refine ce_lcmp (z := lg_cmp (lN (ce_sum (kv_room (sK S) (wz)) (sK S 0 2))) (lN (kv_sum (sK S) 8 (wz)))) dL_errors_631 rfl ?_
                      refine ce_if_geL (a := ce_sum (kv_room (sK S) (wz)) (sK S 0 2)) (b := kv_sum (sK S) 8 (wz)) (tgt := 648) dL_errors_632 (by decide) rfl (by omega) (by omega) (fun c_632 => ?_) (fun c_632 => ?_)
                      · refine ce_iconst (v := nI (1)) dL_errors_648 (by decide) ?_
                        refine ce_goto (tgt := 653) dL_errors_649 (by decide) ?_
                        refine ce_istore dL_errors_653 (Nat.le_of_ble_eq_true rfl) rfl ?_
                        refine ce_iconst (v := nI (0)) dL_errors_655 (by decide) ?_
                        refine ce_istore dL_errors_656 (Nat.le_of_ble_eq_true rfl) rfl ?_
                        refine er_i iv (wz := wz) (by omega) (fun kz2 σ2 g2 hw2 hk2 => ?_) (sK S 0 0 + 1) 0 _ _ _ hcg2 (by omega) (by omega) (by omega)
                        refine ce_iinc (v := nI (wz + 1)) dL_errors_790 rfl (ce_inc1 _) (Nat.le_of_ble_eq_true rfl) rfl ?_
                        refine ce_goto (tgt := 523) dL_errors_793 (by decide) ?_
                        exact ih (wz + 1) _ _ _ hw2 (by omega) (by omega) (by omega)
                      · refine ce_aload_n dL_errors_635 rfl ?_
                        refine ce_iload dL_errors_636 rfl ?_
                        refine kc_Wk dL_errors_638 hL_deliver kRL_152 (h_deliver_n3 (nI (wz)) hcg2 (fun b hX hr => kl_of_x hr (m_X7_deliver_no a b S hX hr iv.ok (nI (wz)) 3 (by unfold kv_delF; simp (disch := omega) only [ce_n, ce_in, nI_toInt, Int.toNat_natCast, true_or, ↓reduceIte]; (repeat' split) <;> first | rfl | omega) (by decide) (by decide)))) rfl rfl (by decide) (Nat.le_of_ble_eq_true rfl) rfl (by show _ ≤ 300; omega) (fun cs3 cg3 hcg3 => ?_)
                        refine ce_ldc2 dL_errors_641 kRL_21 ?_
                        refine ce_lcmp (z := lg_cmp ((-9000000000000000003 : Int64)) ((-9000000000000000003 : Int64))) dL_errors_644 rfl ?_
                        refine ce_if_neC (tgt := 652) dL_errors_645 (by decide) rfl (fun c_645 => ?_) (fun c_645 => ?_)
                        · exact absurd rfl c_645
                        · refine ce_iconst (v := nI (1)) dL_errors_648 (by decide) ?_
                          refine ce_goto (tgt := 653) dL_errors_649 (by decide) ?_
                          refine ce_istore dL_errors_653 (Nat.le_of_ble_eq_true rfl) rfl ?_
                          refine ce_iconst (v := nI (0)) dL_errors_655 (by decide) ?_
                          refine ce_istore dL_errors_656 (Nat.le_of_ble_eq_true rfl) rfl ?_
                          refine er_i iv (wz := wz) (by omega) (fun kz2 σ2 g2 hw2 hk2 => ?_) (sK S 0 0 + 1) 0 _ _ _ hcg3 (by omega) (by omega) (by omega)
                          refine ce_iinc (v := nI (wz + 1)) dL_errors_790 rfl (ce_inc1 _) (Nat.le_of_ble_eq_true rfl) rfl ?_
                          refine ce_goto (tgt := 523) dL_errors_793 (by decide) ?_
                          exact ih (wz + 1) _ _ _ hw2 (by omega) (by omega) (by omega)
set_option maxHeartbeats 2000000 in
set_option maxRecDepth 20000 in
theorem er_z {a : Nat} {S : ks_S} {σ0 : ce_S} {g0 : ce_D} (iv : kl_iv S) {X : String → ce_S → ce_D → Prop} {kz : Nat} {σ : ce_S} {g : ce_D} (hw : kw a S σ0 g0 σ g) (hkz : kz ≤ 250) : ce_WP (ce_rl 2 300) mL_errors (kz) (6 * (kz)) 796 [some (.ref (a)), some (.long (nw (sK S) (sO S))), none, some (.int (nI (sK S 0 0))), some (.int (nI (sK S 0 1))), some (.int (nI (sK S 0 2))), some (.int (nI (1))), none, none, none, none, none, none] [] σ g (kb σ0 g0 a S) X := by
  have b9 := iv.ok.1.b
  refine ce_iload dL_errors_796 rfl ?_
  refine ce_if_eqN (tgt := 930) dL_errors_798 (by decide) rfl (by omega) (fun c_798 => ?_) (fun c_798 => ?_)
  · omega
  · refine ce_aload_n dL_errors_801 rfl ?_
    refine ce_iload_n dL_errors_802 rfl ?_
    refine ce_iconst (v := nI (0)) dL_errors_803 (by decide) ?_
    refine kc_Wk dL_errors_804 hL_wouldGet kRL_158 (h_wouldGet_n1 (nI (sK S 0 0)) (nI (0)) hw (fun b hX hr => kl_of_x hr (m_X7_wouldGet_no a b S hX hr iv.ok (nI (sK S 0 0)) (nI (0)) (by simp (disch := omega) only [ce_in, nI_toInt, Int.toNat_natCast]; omega)))) rfl rfl (by decide) (Nat.le_of_ble_eq_true rfl) rfl (by show _ ≤ 300; omega) (fun cs1 cg1 hcg1 => ?_)
    refine ce_ldc2 dL_errors_807 kRL_36 ?_
    refine ce_lcmp (z := lg_cmp ((-9000000000000000001 : Int64)) ((-9000000000000000001 : Int64))) dL_errors_810 rfl ?_
    refine ce_if_neC (tgt := 930) dL_errors_811 (by decide) rfl (fun c_811 => ?_) (fun c_811 => ?_)
    · exact absurd rfl c_811
    · refine ce_aload_n dL_errors_814 rfl ?_
      refine ce_iload dL_errors_815 rfl ?_
      refine kc_Wk dL_errors_817 hL_roomFor kRL_164 (h_roomFor_n1 (nI (sK S 0 1)) hcg1 (fun b hX hr => kl_of_x hr (m_X7_roomFor_n1 a b S hX hr iv.ok (nI (sK S 0 1)) (by simp (disch := omega) only [ce_in, nI_toInt, Int.toNat_natCast]; omega)))) rfl rfl (by decide) (Nat.le_of_ble_eq_true rfl) rfl (by show _ ≤ 300; omega) (fun cs2 cg2 hcg2 => ?_)
      refine ce_ldc2 dL_errors_820 kRL_36 ?_
      refine ce_lcmp (z := lg_cmp ((-9000000000000000001 : Int64)) ((-9000000000000000001 : Int64))) dL_errors_823 rfl ?_
      refine ce_if_neC (tgt := 930) dL_errors_824 (by decide) rfl (fun c_824 => ?_) (fun c_824 => ?_)
      · exact absurd rfl c_824
      · refine ce_aload_n dL_errors_827 rfl ?_
        refine ce_iload dL_errors_828 rfl ?_
        refine kc_Wk dL_errors_830 hL_shortest kRL_162 (h_shortest_n1 (nI (sK S 0 1)) hcg2 (fun b hX hr => kl_of_x hr (m_X7_shortest_no a b S hX hr iv.ok (nI (sK S 0 1)) (by simp (disch := omega) only [ce_in, nI_toInt, Int.toNat_natCast]; omega)))) rfl rfl (by decide) (Nat.le_of_ble_eq_true rfl) rfl (by show _ ≤ 300; omega) (fun cs3 cg3 hcg3 => ?_)
        refine ce_ldc2 dL_errors_833 kRL_36 ?_
        refine ce_lcmp (z := lg_cmp ((-9000000000000000001 : Int64)) ((-9000000000000000001 : Int64))) dL_errors_836 rfl ?_
        refine ce_if_neC (tgt := 930) dL_errors_837 (by decide) rfl (fun c_837 => ?_) (fun c_837 => ?_)
        · exact absurd rfl c_837
        · refine ce_aload_n dL_errors_840 rfl ?_
          refine ce_iconst (v := nI (0)) dL_errors_841 (by decide) ?_
          refine ce_lconst (v := lN 0) dL_errors_842 (by decide) ?_
          refine kc_Wk dL_errors_843 hL_script kRL_168 (h_script_n2 (nI (0)) (lN (0)) hcg3 (fun b hX hr => kl_of_x hr (m_X7_runScript_no a b S hX hr iv.ok (nI (0)) (lN (0)) 2 (by unfold kx_scr; exact if_neg (fun z => absurd z.1 (by decide))) (by decide) (by decide)))) rfl rfl (by decide) (Nat.le_of_ble_eq_true rfl) rfl (by show _ ≤ 300; omega) (fun cs4 cg4 hcg4 => ?_)
          refine ce_ldc2 dL_errors_846 kRL_17 ?_
          refine ce_lcmp (z := lg_cmp ((-9000000000000000002 : Int64)) ((-9000000000000000002 : Int64))) dL_errors_849 rfl ?_
          refine ce_if_neC (tgt := 930) dL_errors_850 (by decide) rfl (fun c_850 => ?_) (fun c_850 => ?_)
          · exact absurd rfl c_850
          · refine ce_aload_n dL_errors_853 rfl ?_
            refine ce_iconst (v := nI (3)) dL_errors_854 (by decide) ?_
            refine ce_ldc2 (v := lN 1000000000000000) dL_errors_855 kRL_172 ?_
            refine kc_Wk dL_errors_858 hL_script kRL_168 (h_script_n2 (nI (3)) (lN (1000000000000000)) hcg4 (fun b hX hr => kl_of_x hr (m_X7_runScript_no a b S hX hr iv.ok (nI (3)) (lN (1000000000000000)) 2 (by unfold kx_scr; exact if_neg (fun z => absurd z.2.2.2 (by decide))) (by decide) (by decide)))) rfl rfl (by decide) (Nat.le_of_ble_eq_true rfl) rfl (by show _ ≤ 300; omega) (fun cs5 cg5 hcg5 => ?_)
            refine ce_ldc2 dL_errors_861 kRL_17 ?_
            refine ce_lcmp (z := lg_cmp ((-9000000000000000002 : Int64)) ((-9000000000000000002 : Int64))) dL_errors_864 rfl ?_
            refine ce_if_neC (tgt := 930) dL_errors_865 (by decide) rfl (fun c_865 => ?_) (fun c_865 => ?_)
            · exact absurd rfl c_865
            · refine ce_aload_n dL_errors_868 rfl ?_
              refine ce_lconst (v := lN 1) dL_errors_869 (by decide) ?_
              refine ce_iconst (v := nI (0)) dL_errors_870 (by decide) ?_
              refine kc_Wk dL_errors_871 hL_simulate kRL_174 (h_simulate_n2 (lN (1)) (nI (0)) hcg5 (fun b hX hr => kl_of_x hr (m_X7_simulate_no a b S hX hr iv.ok (lN (1)) (nI (0)) 2 (by decide) (by decide) (by decide)))) rfl rfl (by decide) (Nat.le_of_ble_eq_true rfl) rfl (by show _ ≤ 300; omega) (fun cs6 cg6 hcg6 => ?_)
              refine ce_ldc2 dL_errors_874 kRL_17 ?_
              refine ce_lcmp (z := lg_cmp ((-9000000000000000002 : Int64)) ((-9000000000000000002 : Int64))) dL_errors_877 rfl ?_
              refine ce_if_neC (tgt := 930) dL_errors_878 (by decide) rfl (fun c_878 => ?_) (fun c_878 => ?_)
              · exact absurd rfl c_878
              · refine ce_aload_n dL_errors_881 rfl ?_
                refine ce_iconst (v := nI (2)) dL_errors_882 (by decide) ?_
                refine kc_Wk dL_errors_883 hL_save kRL_177 (h_save_n1 (nI (2)) hcg6 (fun b hX hr => kl_of_x hr (m_X7_save_no a b S hX hr iv.ok (nI (2)) (by simp (disch := omega) only [ce_in, nI_toInt, Int.toNat_natCast]; omega)))) rfl rfl (by decide) (Nat.le_of_ble_eq_true rfl) rfl (by show _ ≤ 300; omega) (fun cs7 cg7 hcg7 => ?_)
                refine ce_ldc2 dL_errors_886 kRL_36 ?_
                refine ce_lcmp (z := lg_cmp ((-9000000000000000001 : Int64)) ((-9000000000000000001 : Int64))) dL_errors_889 rfl ?_
                refine ce_if_neC (tgt := 930) dL_errors_890 (by decide) rfl (fun c_890 => ?_) (fun c_890 => ?_)
                · exact absurd rfl c_890
                · refine ce_aload_n dL_errors_893 rfl ?_
                  refine ce_iconst (v := nI (2)) dL_errors_894 (by decide) ?_
                  refine kc_Wk dL_errors_895 hL_restore kRL_179 (h_restore_n1 (nI (2)) hcg7 (fun b hX hr => kl_of_x hr (m_X7_restore_n1 a b S hX hr iv.ok (nI (2)) (by simp (disch := omega) only [ce_in, nI_toInt, Int.toNat_natCast]; omega)))) rfl rfl (by decide) (Nat.le_of_ble_eq_true rfl) rfl (by show _ ≤ 300; omega) (fun cs8 cg8 hcg8 => ?_)
                  refine ce_ldc2 dL_errors_898 kRL_36 ?_
                  refine ce_lcmp (z := lg_cmp ((-9000000000000000001 : Int64)) ((-9000000000000000001 : Int64))) dL_errors_901 rfl ?_
                  refine ce_if_neC (tgt := 930) dL_errors_902 (by decide) rfl (fun c_902 => ?_) (fun c_902 => ?_)
                  · exact absurd rfl c_902
                  · refine ce_aload_n dL_errors_905 rfl ?_
                    refine ce_iconst (v := (-1)) dL_errors_906 (by decide) ?_
                    refine kc_Wk dL_errors_907 hL_append kRL_181 (h_append_n2 ((-1)) hcg8 (fun b hX hr => kl_of_x hr (m_X7_append_no a b S hX hr iv.ok ((-1)) 2 (by unfold kx_addF; exact if_pos (Or.inl (by decide))) (by decide) (by decide)))) rfl rfl (by decide) (Nat.le_of_ble_eq_true rfl) rfl (by show _ ≤ 300; omega) (fun cs9 cg9 hcg9 => ?_)
                    refine ce_ldc2 dL_errors_910 kRL_17 ?_
                    refine ce_lcmp (z := lg_cmp ((-9000000000000000002 : Int64)) ((-9000000000000000002 : Int64))) dL_errors_913 rfl ?_
                    refine ce_if_neC (tgt := 930) dL_errors_914 (by decide) rfl (fun c_914 => ?_) (fun c_914 => ?_)
                    · exact absurd rfl c_914
                    · refine ce_aload_n dL_errors_917 rfl ?_
                      refine kc_Sj dL_errors_918 hL_now kRL_131 (m_L_now hcg9 iv) rfl rfl (by decide) (Nat.le_of_ble_eq_true rfl) rfl (by show _ ≤ 300; omega) ?_
                      refine ce_lload_n dL_errors_921 rfl ?_
                      refine ce_lcmp (z := lg_cmp (nw (sK S) (sO S)) (nw (sK S) (sO S))) dL_errors_922 rfl ?_
                      refine ce_if_neC (tgt := 930) dL_errors_923 (by decide) rfl (fun c_923 => ?_) (fun c_923 => ?_)
                      · exact absurd rfl c_923
                      · refine ce_iconst (v := nI (1)) dL_errors_926 (by decide) ?_
                        refine ce_goto (tgt := 931) dL_errors_927 (by decide) ?_
                        exact ce_iret dL_errors_931 rfl rfl (by show _ ≤ 300; omega) (by show _ ≤ 6 * 300; omega) ⟨rfl, hcg9⟩
set_option maxHeartbeats 2000000 in
set_option maxRecDepth 20000 in
theorem m_L_errors {a : Nat} {S : ks_S} {σ0 σ : ce_S} {g0 g : ce_D} (hw : kw a S σ0 g0 σ g) (iv : kl_iv S) : ce_CT (ce_rl 2 300) mL_errors [.ref a] σ g (kb σ0 g0 a S) ce_no := by
  have b9 := iv.ok.1.b
  refine ce_enter (by decide) rfl (Nat.le_of_ble_eq_true rfl) (L := [some (.ref (a)), none, none, none, none, none, none, none, none, none, none, none, none]) rfl ?_
  show ce_WP (ce_rl 2 300) mL_errors 0 (6 * 0) 0 _ _ _ _ _ _
  refine ce_aload_n dL_errors_0 rfl ?_
  refine kc_Sj dL_errors_1 hL_now kRL_131 (m_L_now hw iv) rfl rfl (by decide) (Nat.le_of_ble_eq_true rfl) rfl (by decide) ?_
  refine ce_lstore_n dL_errors_4 (Nat.le_of_ble_eq_true rfl) rfl ?_
  refine ce_aload_n dL_errors_5 rfl ?_
  refine ce_iconst (v := nI (0)) dL_errors_6 (by decide) ?_
  refine kc_Wj dL_errors_7 hL_about kRL_112 (q_about0 hw iv) rfl rfl (by decide) (Nat.le_of_ble_eq_true rfl) rfl (by decide) ?_
  refine ce_l2i (v := nI (sK S 0 0)) dL_errors_10 (lN_i _) ?_
  refine ce_istore_n dL_errors_11 (Nat.le_of_ble_eq_true rfl) rfl ?_
  refine ce_aload_n dL_errors_12 rfl ?_
  refine ce_iconst (v := nI (1)) dL_errors_13 (by decide) ?_
  refine kc_Wj dL_errors_14 hL_about kRL_112 (q_about1 hw iv) rfl rfl (by decide) (Nat.le_of_ble_eq_true rfl) rfl (by decide) ?_
  refine ce_l2i (v := nI (sK S 0 1)) dL_errors_17 (lN_i _) ?_
  refine ce_istore dL_errors_18 (Nat.le_of_ble_eq_true rfl) rfl ?_
  refine ce_aload_n dL_errors_20 rfl ?_
  refine ce_iconst (v := nI (2)) dL_errors_21 (by decide) ?_
  refine kc_Wj dL_errors_22 hL_about kRL_112 (q_about2 hw iv) rfl rfl (by decide) (Nat.le_of_ble_eq_true rfl) rfl (by decide) ?_
  refine ce_l2i (v := nI (sK S 0 2)) dL_errors_25 (lN_i _) ?_
  refine ce_istore dL_errors_26 (Nat.le_of_ble_eq_true rfl) rfl ?_
  refine er_1 iv (fun k1 σ1 g1 hw1 hk1 => ?_) hw (by omega)
  refine er_2 iv (fun k2 σ2 g2 hw2 hk2 => ?_) hw1 hk1
  refine er_3 iv (fun k3 σ3 g3 hw3 hk3 => ?_) hw2 hk2
  refine er_4 iv (fun k4 σ4 g4 hw4 hk4 => ?_) hw3 hk3
  refine er_5 iv (fun k5 σ5 g5 hw5 hk5 => ?_) hw4 hk4
  refine er_6 iv (fun k6 σ6 g6 hw6 hk6 => ?_) hw5 hk5
  refine er_7 iv (fun k7 σ7 g7 hw7 hk7 => ?_) hw6 hk6
  refine er_8 iv (fun k8 σ8 g8 hw8 hk8 => ?_) hw7 hk7
  refine er_9 iv (fun k9 σ9 g9 hw9 hk9 => ?_) hw8 hk8
  refine er_k iv (fun kz σ g hw hk => ?_) (sK S 0 1 + 1) 0 _ _ _ hw9 (by omega) (by omega) (by omega)
  exact er_z iv hw hk
