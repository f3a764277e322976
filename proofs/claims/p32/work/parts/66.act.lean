set_option maxHeartbeats 2000000 in
set_option maxRecDepth 20000 in
theorem ac_s {xz yz iz wz : Nat} {S : ks_S} (hx : xz < 2147483648) (hy : yz < 2147483648) (iv : kl_iv S) : ∃ (V : Int64) (S2 : ks_S), kl_iv S2 ∧ ∀ (σ0 σ : ce_S) (g0 g : ce_D) (a : Nat), kw a S σ0 g0 σ g → ce_WP (ce_rl 1 1) mL_act 0 (6 * 0) 64 [some (.ref (a)), some (.int (nI (xz))), some (.int (nI (yz))), none, none, some (.int (nI (iz))), some (.int (nI (wz))), none] [] σ g (kq σ0 g0 a S2 V) ce_no := by
  have hc : xz % 24 = 0 ∨ xz % 24 = 1 ∨ xz % 24 = 2 ∨ xz % 24 = 3 ∨ xz % 24 = 4 ∨ xz % 24 = 5 ∨ xz % 24 = 6 ∨ xz % 24 = 7 ∨ xz % 24 = 8 ∨ xz % 24 = 9 ∨ xz % 24 = 10 ∨ xz % 24 = 11 ∨ xz % 24 = 12 ∨ xz % 24 = 13 ∨ xz % 24 = 14 ∨ xz % 24 = 15 ∨ xz % 24 = 16 ∨ xz % 24 = 17 ∨ xz % 24 = 18 ∨ xz % 24 = 19 ∨ xz % 24 = 20 ∨ xz % 24 = 21 ∨ xz % 24 = 22 ∨ xz % 24 = 23 := by omega
  rcases hc with hk | hk | hk | hk | hk | hk | hk | hk | hk | hk | hk | hk | hk | hk | hk | hk | hk | hk | hk | hk | hk | hk | hk | hk
  · obtain ⟨V, S2, iv2, h⟩ := o_addMember iv (nI (yz / 36 % 200))
    refine ⟨V, S2, iv2, fun σ0 σ g0 g a hw => ?_⟩
    refine ce_iload_n dL_act_64 rfl ?_
    refine ce_bipush (v := nI (36)) dL_act_65 (by decide) ?_
    refine ce_idiv (z := nI ((yz) / (36))) dL_act_67 (nI_ne0 (by omega) (by omega)) (pk_div (by omega) (by omega) (by omega)) ?_
    refine ce_istore dL_act_68 (Nat.le_of_ble_eq_true rfl) rfl ?_
    refine ce_iload_n dL_act_70 rfl ?_
    refine ce_bipush (v := nI (24)) dL_act_71 (by decide) ?_
    refine ce_irem (z := nI (0)) dL_act_73 (nI_ne0 (by omega) (by omega)) ((pk_rem (by omega) (by omega) (by omega)).trans (congrArg nI hk)) ?_
    refine ce_tableIn (off := 106) (tgt := 180) dL_act_74 (by decide) (by decide) (by decide) (by decide) ?_
    refine ce_aload_n dL_act_180 rfl ?_
    refine ce_iload dL_act_181 rfl ?_
    refine ce_sipush (v := nI (200)) dL_act_183 (by decide) ?_
    refine ce_irem (z := nI (((yz) / (36)) % (200))) dL_act_186 (nI_ne0 (by omega) (by omega)) (pk_rem (by omega) (by omega) (by omega)) ?_
    refine kc_Wk (V := V) dL_act_187 hL_addMember kRL_144 (h _ _ _ _ _ hw) rfl rfl (by decide) (Nat.le_of_ble_eq_true rfl) rfl (by decide) (fun cs1 cg1 hcg1 => ?_)
    exact ce_lret dL_act_190 rfl (by decide) (by decide) ⟨rfl, hcg1⟩
  · obtain ⟨V, S2, iv2, h⟩ := o_addWine iv (nI (1 + yz / 36 % 99)) (nI (yz / 36 / 99 % 20))
    refine ⟨V, S2, iv2, fun σ0 σ g0 g a hw => ?_⟩
    refine ce_iload_n dL_act_64 rfl ?_
    refine ce_bipush (v := nI (36)) dL_act_65 (by decide) ?_
    refine ce_idiv (z := nI ((yz) / (36))) dL_act_67 (nI_ne0 (by omega) (by omega)) (pk_div (by omega) (by omega) (by omega)) ?_
    refine ce_istore dL_act_68 (Nat.le_of_ble_eq_true rfl) rfl ?_
    refine ce_iload_n dL_act_70 rfl ?_
    refine ce_bipush (v := nI (24)) dL_act_71 (by decide) ?_
    refine ce_irem (z := nI (1)) dL_act_73 (nI_ne0 (by omega) (by omega)) ((pk_rem (by omega) (by omega) (by omega)).trans (congrArg nI hk)) ?_
    refine ce_tableIn (off := 117) (tgt := 191) dL_act_74 (by decide) (by decide) (by decide) (by decide) ?_
    refine ce_aload_n dL_act_191 rfl ?_
    refine ce_iconst (v := nI (1)) dL_act_192 (by decide) ?_
    refine ce_iload dL_act_193 rfl ?_
    refine ce_bipush (v := nI (99)) dL_act_195 (by decide) ?_
    refine ce_irem (z := nI (((yz) / (36)) % (99))) dL_act_197 (nI_ne0 (by omega) (by omega)) (pk_rem (by omega) (by omega) (by omega)) ?_
    refine ce_iadd (z := nI (1 + (((yz) / (36)) % (99)))) dL_act_198 (nI_add _ _) ?_
    refine ce_iload dL_act_199 rfl ?_
    refine ce_bipush (v := nI (99)) dL_act_201 (by decide) ?_
    refine ce_idiv (z := nI (((yz) / (36)) / (99))) dL_act_203 (nI_ne0 (by omega) (by omega)) (pk_div (by omega) (by omega) (by omega)) ?_
    refine ce_bipush (v := nI (20)) dL_act_204 (by decide) ?_
    refine ce_irem (z := nI ((((yz) / (36)) / (99)) % (20))) dL_act_206 (nI_ne0 (by omega) (by omega)) (pk_rem (by omega) (by omega) (by omega)) ?_
    refine kc_Wk (V := V) dL_act_207 hL_addWine kRL_146 (h _ _ _ _ _ hw) rfl rfl (by decide) (Nat.le_of_ble_eq_true rfl) rfl (by decide) (fun cs1 cg1 hcg1 => ?_)
    exact ce_lret dL_act_210 rfl (by decide) (by decide) ⟨rfl, hcg1⟩
  · obtain ⟨V, S2, iv2, h⟩ := o_addBin iv (nI (1 + yz / 36 % 24))
    refine ⟨V, S2, iv2, fun σ0 σ g0 g a hw => ?_⟩
    refine ce_iload_n dL_act_64 rfl ?_
    refine ce_bipush (v := nI (36)) dL_act_65 (by decide) ?_
    refine ce_idiv (z := nI ((yz) / (36))) dL_act_67 (nI_ne0 (by omega) (by omega)) (pk_div (by omega) (by omega) (by omega)) ?_
    refine ce_istore dL_act_68 (Nat.le_of_ble_eq_true rfl) rfl ?_
    refine ce_iload_n dL_act_70 rfl ?_
    refine ce_bipush (v := nI (24)) dL_act_71 (by decide) ?_
    refine ce_irem (z := nI (2)) dL_act_73 (nI_ne0 (by omega) (by omega)) ((pk_rem (by omega) (by omega) (by omega)).trans (congrArg nI hk)) ?_
    refine ce_tableIn (off := 137) (tgt := 211) dL_act_74 (by decide) (by decide) (by decide) (by decide) ?_
    refine ce_aload_n dL_act_211 rfl ?_
    refine ce_iconst (v := nI (1)) dL_act_212 (by decide) ?_
    refine ce_iload dL_act_213 rfl ?_
    refine ce_bipush (v := nI (24)) dL_act_215 (by decide) ?_
    refine ce_irem (z := nI (((yz) / (36)) % (24))) dL_act_217 (nI_ne0 (by omega) (by omega)) (pk_rem (by omega) (by omega) (by omega)) ?_
    refine ce_iadd (z := nI (1 + (((yz) / (36)) % (24)))) dL_act_218 (nI_add _ _) ?_
    refine kc_Wk (V := V) dL_act_219 hL_addBin kRL_148 (h _ _ _ _ _ hw) rfl rfl (by decide) (Nat.le_of_ble_eq_true rfl) rfl (by decide) (fun cs1 cg1 hcg1 => ?_)
    exact ce_lret dL_act_222 rfl (by decide) (by decide) ⟨rfl, hcg1⟩
  · obtain ⟨V, S2, iv2, h⟩ := o_addBin iv (nI (1 + yz / 36 % 24))
    refine ⟨V, S2, iv2, fun σ0 σ g0 g a hw => ?_⟩
    refine ce_iload_n dL_act_64 rfl ?_
    refine ce_bipush (v := nI (36)) dL_act_65 (by decide) ?_
    refine ce_idiv (z := nI ((yz) / (36))) dL_act_67 (nI_ne0 (by omega) (by omega)) (pk_div (by omega) (by omega) (by omega)) ?_
    refine ce_istore dL_act_68 (Nat.le_of_ble_eq_true rfl) rfl ?_
    refine ce_iload_n dL_act_70 rfl ?_
    refine ce_bipush (v := nI (24)) dL_act_71 (by decide) ?_
    refine ce_irem (z := nI (3)) dL_act_73 (nI_ne0 (by omega) (by omega)) ((pk_rem (by omega) (by omega) (by omega)).trans (congrArg nI hk)) ?_
    refine ce_tableIn (off := 137) (tgt := 211) dL_act_74 (by decide) (by decide) (by decide) (by decide) ?_
    refine ce_aload_n dL_act_211 rfl ?_
    refine ce_iconst (v := nI (1)) dL_act_212 (by decide) ?_
    refine ce_iload dL_act_213 rfl ?_
    refine ce_bipush (v := nI (24)) dL_act_215 (by decide) ?_
    refine ce_irem (z := nI (((yz) / (36)) % (24))) dL_act_217 (nI_ne0 (by omega) (by omega)) (pk_rem (by omega) (by omega) (by omega)) ?_
    refine ce_iadd (z := nI (1 + (((yz) / (36)) % (24)))) dL_act_218 (nI_add _ _) ?_
    refine kc_Wk (V := V) dL_act_219 hL_addBin kRL_148 (h _ _ _ _ _ hw) rfl rfl (by decide) (Nat.le_of_ble_eq_true rfl) rfl (by decide) (fun cs1 cg1 hcg1 => ?_)
    exact ce_lret dL_act_222 rfl (by decide) (by decide) ⟨rfl, hcg1⟩
  · obtain ⟨V, S2, iv2, h⟩ := o_order iv (nI (iz)) (nI (wz)) (nI (yz / 36 % 12))
    refine ⟨V, S2, iv2, fun σ0 σ g0 g a hw => ?_⟩
    refine ce_iload_n dL_act_64 rfl ?_
    refine ce_bipush (v := nI (36)) dL_act_65 (by decide) ?_
    refine ce_idiv (z := nI ((yz) / (36))) dL_act_67 (nI_ne0 (by omega) (by omega)) (pk_div (by omega) (by omega) (by omega)) ?_
    refine ce_istore dL_act_68 (Nat.le_of_ble_eq_true rfl) rfl ?_
    refine ce_iload_n dL_act_70 rfl ?_
    refine ce_bipush (v := nI (24)) dL_act_71 (by decide) ?_
    refine ce_irem (z := nI (4)) dL_act_73 (nI_ne0 (by omega) (by omega)) ((pk_rem (by omega) (by omega) (by omega)).trans (congrArg nI hk)) ?_
    refine ce_tableIn (off := 149) (tgt := 223) dL_act_74 (by decide) (by decide) (by decide) (by decide) ?_
    refine ce_aload_n dL_act_223 rfl ?_
    refine ce_iload dL_act_224 rfl ?_
    refine ce_iload dL_act_226 rfl ?_
    refine ce_iload dL_act_228 rfl ?_
    refine ce_bipush (v := nI (12)) dL_act_230 (by decide) ?_
    refine ce_irem (z := nI (((yz) / (36)) % (12))) dL_act_232 (nI_ne0 (by omega) (by omega)) (pk_rem (by omega) (by omega) (by omega)) ?_
    refine kc_Wk (V := V) dL_act_233 hL_order kRL_137 (h _ _ _ _ _ hw) rfl rfl (by decide) (Nat.le_of_ble_eq_true rfl) rfl (by decide) (fun cs1 cg1 hcg1 => ?_)
    exact ce_lret dL_act_236 rfl (by decide) (by decide) ⟨rfl, hcg1⟩
  · obtain ⟨V, S2, iv2, h⟩ := o_order iv (nI (iz)) (nI (wz)) (nI (yz / 36 % 12))
    refine ⟨V, S2, iv2, fun σ0 σ g0 g a hw => ?_⟩
    refine ce_iload_n dL_act_64 rfl ?_
    refine ce_bipush (v := nI (36)) dL_act_65 (by decide) ?_
    refine ce_idiv (z := nI ((yz) / (36))) dL_act_67 (nI_ne0 (by omega) (by omega)) (pk_div (by omega) (by omega) (by omega)) ?_
    refine ce_istore dL_act_68 (Nat.le_of_ble_eq_true rfl) rfl ?_
    refine ce_iload_n dL_act_70 rfl ?_
    refine ce_bipush (v := nI (24)) dL_act_71 (by decide) ?_
    refine ce_irem (z := nI (5)) dL_act_73 (nI_ne0 (by omega) (by omega)) ((pk_rem (by omega) (by omega) (by omega)).trans (congrArg nI hk)) ?_
    refine ce_tableIn (off := 149) (tgt := 223) dL_act_74 (by decide) (by decide) (by decide) (by decide) ?_
    refine ce_aload_n dL_act_223 rfl ?_
    refine ce_iload dL_act_224 rfl ?_
    refine ce_iload dL_act_226 rfl ?_
    refine ce_iload dL_act_228 rfl ?_
    refine ce_bipush (v := nI (12)) dL_act_230 (by decide) ?_
    refine ce_irem (z := nI (((yz) / (36)) % (12))) dL_act_232 (nI_ne0 (by omega) (by omega)) (pk_rem (by omega) (by omega) (by omega)) ?_
    refine kc_Wk (V := V) dL_act_233 hL_order kRL_137 (h _ _ _ _ _ hw) rfl rfl (by decide) (Nat.le_of_ble_eq_true rfl) rfl (by decide) (fun cs1 cg1 hcg1 => ?_)
    exact ce_lret dL_act_236 rfl (by decide) (by decide) ⟨rfl, hcg1⟩
  · obtain ⟨V, S2, iv2, h⟩ := o_order iv (nI (iz)) (nI (wz)) (nI (yz / 36 % 12))
    refine ⟨V, S2, iv2, fun σ0 σ g0 g a hw => ?_⟩
    refine ce_iload_n dL_act_64 rfl ?_
    refine ce_bipush (v := nI (36)) dL_act_65 (by decide) ?_
    refine ce_idiv (z := nI ((yz) / (36))) dL_act_67 (nI_ne0 (by omega) (by omega)) (pk_div (by omega) (by omega) (by omega)) ?_
    refine ce_istore dL_act_68 (Nat.le_of_ble_eq_true rfl) rfl ?_
    refine ce_iload_n dL_act_70 rfl ?_
    refine ce_bipush (v := nI (24)) dL_act_71 (by decide) ?_
    refine ce_irem (z := nI (6)) dL_act_73 (nI_ne0 (by omega) (by omega)) ((pk_rem (by omega) (by omega) (by omega)).trans (congrArg nI hk)) ?_
    refine ce_tableIn (off := 149) (tgt := 223) dL_act_74 (by decide) (by decide) (by decide) (by decide) ?_
    refine ce_aload_n dL_act_223 rfl ?_
    refine ce_iload dL_act_224 rfl ?_
    refine ce_iload dL_act_226 rfl ?_
    refine ce_iload dL_act_228 rfl ?_
    refine ce_bipush (v := nI (12)) dL_act_230 (by decide) ?_
    refine ce_irem (z := nI (((yz) / (36)) % (12))) dL_act_232 (nI_ne0 (by omega) (by omega)) (pk_rem (by omega) (by omega) (by omega)) ?_
    refine kc_Wk (V := V) dL_act_233 hL_order kRL_137 (h _ _ _ _ _ hw) rfl rfl (by decide) (Nat.le_of_ble_eq_true rfl) rfl (by decide) (fun cs1 cg1 hcg1 => ?_)
    exact ce_lret dL_act_236 rfl (by decide) (by decide) ⟨rfl, hcg1⟩
  · obtain ⟨V, S2, iv2, h⟩ := o_allocate iv (nI (wz))
    refine ⟨V, S2, iv2, fun σ0 σ g0 g a hw => ?_⟩
    refine ce_iload_n dL_act_64 rfl ?_
    refine ce_bipush (v := nI (36)) dL_act_65 (by decide) ?_
    refine ce_idiv (z := nI ((yz) / (36))) dL_act_67 (nI_ne0 (by omega) (by omega)) (pk_div (by omega) (by omega) (by omega)) ?_
    refine ce_istore dL_act_68 (Nat.le_of_ble_eq_true rfl) rfl ?_
    refine ce_iload_n dL_act_70 rfl ?_
    refine ce_bipush (v := nI (24)) dL_act_71 (by decide) ?_
    refine ce_irem (z := nI (7)) dL_act_73 (nI_ne0 (by omega) (by omega)) ((pk_rem (by omega) (by omega) (by omega)).trans (congrArg nI hk)) ?_
    refine ce_tableIn (off := 163) (tgt := 237) dL_act_74 (by decide) (by decide) (by decide) (by decide) ?_
    refine ce_aload_n dL_act_237 rfl ?_
    refine ce_iload dL_act_238 rfl ?_
    refine kc_Wk (V := V) dL_act_240 hL_allocate kRL_150 (h _ _ _ _ _ hw) rfl rfl (by decide) (Nat.le_of_ble_eq_true rfl) rfl (by decide) (fun cs1 cg1 hcg1 => ?_)
    exact ce_lret dL_act_243 rfl (by decide) (by decide) ⟨rfl, hcg1⟩
  · obtain ⟨V, S2, iv2, h⟩ := o_allocate iv (nI (wz))
    refine ⟨V, S2, iv2, fun σ0 σ g0 g a hw => ?_⟩
    refine ce_iload_n dL_act_64 rfl ?_
    refine ce_bipush (v := nI (36)) dL_act_65 (by decide) ?_
    refine ce_idiv (z := nI ((yz) / (36))) dL_act_67 (nI_ne0 (by omega) (by omega)) (pk_div (by omega) (by omega) (by omega)) ?_
    refine ce_istore dL_act_68 (Nat.le_of_ble_eq_true rfl) rfl ?_
    refine ce_iload_n dL_act_70 rfl ?_
    refine ce_bipush (v := nI (24)) dL_act_71 (by decide) ?_
    refine ce_irem (z := nI (8)) dL_act_73 (nI_ne0 (by omega) (by omega)) ((pk_rem (by omega) (by omega) (by omega)).trans (congrArg nI hk)) ?_
    refine ce_tableIn (off := 163) (tgt := 237) dL_act_74 (by decide) (by decide) (by decide) (by decide) ?_
    refine ce_aload_n dL_act_237 rfl ?_
    refine ce_iload dL_act_238 rfl ?_
    refine kc_Wk (V := V) dL_act_240 hL_allocate kRL_150 (h _ _ _ _ _ hw) rfl rfl (by decide) (Nat.le_of_ble_eq_true rfl) rfl (by decide) (fun cs1 cg1 hcg1 => ?_)
    exact ce_lret dL_act_243 rfl (by decide) (by decide) ⟨rfl, hcg1⟩
  · obtain ⟨V, S2, iv2, h⟩ := o_allocate iv (nI (wz))
    refine ⟨V, S2, iv2, fun σ0 σ g0 g a hw => ?_⟩
    refine ce_iload_n dL_act_64 rfl ?_
    refine ce_bipush (v := nI (36)) dL_act_65 (by decide) ?_
    refine ce_idiv (z := nI ((yz) / (36))) dL_act_67 (nI_ne0 (by omega) (by omega)) (pk_div (by omega) (by omega) (by omega)) ?_
    refine ce_istore dL_act_68 (Nat.le_of_ble_eq_true rfl) rfl ?_
    refine ce_iload_n dL_act_70 rfl ?_
    refine ce_bipush (v := nI (24)) dL_act_71 (by decide) ?_
    refine ce_irem (z := nI (9)) dL_act_73 (nI_ne0 (by omega) (by omega)) ((pk_rem (by omega) (by omega) (by omega)).trans (congrArg nI hk)) ?_
    refine ce_tableIn (off := 163) (tgt := 237) dL_act_74 (by decide) (by decide) (by decide) (by decide) ?_
    refine ce_aload_n dL_act_237 rfl ?_
    refine ce_iload dL_act_238 rfl ?_
    refine kc_Wk (V := V) dL_act_240 hL_allocate kRL_150 (h _ _ _ _ _ hw) rfl rfl (by decide) (Nat.le_of_ble_eq_true rfl) rfl (by decide) (fun cs1 cg1 hcg1 => ?_)
    exact ce_lret dL_act_243 rfl (by decide) (by decide) ⟨rfl, hcg1⟩
  · obtain ⟨V, S2, iv2, h⟩ := o_deliver iv (nI (wz))
    refine ⟨V, S2, iv2, fun σ0 σ g0 g a hw => ?_⟩
    refine ce_iload_n dL_act_64 rfl ?_
    refine ce_bipush (v := nI (36)) dL_act_65 (by decide) ?_
    refine ce_idiv (z := nI ((yz) / (36))) dL_act_67 (nI_ne0 (by omega) (by omega)) (pk_div (by omega) (by omega) (by omega)) ?_
    refine ce_istore dL_act_68 (Nat.le_of_ble_eq_true rfl) rfl ?_
    refine ce_iload_n dL_act_70 rfl ?_
    refine ce_bipush (v := nI (24)) dL_act_71 (by decide) ?_
    refine ce_irem (z := nI (10)) dL_act_73 (nI_ne0 (by omega) (by omega)) ((pk_rem (by omega) (by omega) (by omega)).trans (congrArg nI hk)) ?_
    refine ce_tableIn (off := 170) (tgt := 244) dL_act_74 (by decide) (by decide) (by decide) (by decide) ?_
    refine ce_aload_n dL_act_244 rfl ?_
    refine ce_iload dL_act_245 rfl ?_
    refine kc_Wk (V := V) dL_act_247 hL_deliver kRL_152 (h _ _ _ _ _ hw) rfl rfl (by decide) (Nat.le_of_ble_eq_true rfl) rfl (by decide) (fun cs1 cg1 hcg1 => ?_)
    exact ce_lret dL_act_250 rfl (by decide) (by decide) ⟨rfl, hcg1⟩
  · obtain ⟨V, S2, iv2, h⟩ := o_deliver iv (nI (wz))
    refine ⟨V, S2, iv2, fun σ0 σ g0 g a hw => ?_⟩
    refine ce_iload_n dL_act_64 rfl ?_
    refine ce_bipush (v := nI (36)) dL_act_65 (by decide) ?_
    refine ce_idiv (z := nI ((yz) / (36))) dL_act_67 (nI_ne0 (by omega) (by omega)) (pk_div (by omega) (by omega) (by omega)) ?_
    refine ce_istore dL_act_68 (Nat.le_of_ble_eq_true rfl) rfl ?_
    refine ce_iload_n dL_act_70 rfl ?_
    refine ce_bipush (v := nI (24)) dL_act_71 (by decide) ?_
    refine ce_irem (z := nI (11)) dL_act_73 (nI_ne0 (by omega) (by omega)) ((pk_rem (by omega) (by omega) (by omega)).trans (congrArg nI hk)) ?_
    refine ce_tableIn (off := 170) (tgt := 244) dL_act_74 (by decide) (by decide) (by decide) (by decide) ?_
    refine ce_aload_n dL_act_244 rfl ?_
    refine ce_iload dL_act_245 rfl ?_
    refine kc_Wk (V := V) dL_act_247 hL_deliver kRL_152 (h _ _ _ _ _ hw) rfl rfl (by decide) (Nat.le_of_ble_eq_true rfl) rfl (by decide) (fun cs1 cg1 hcg1 => ?_)
    exact ce_lret dL_act_250 rfl (by decide) (by decide) ⟨rfl, hcg1⟩
  · obtain ⟨V, S2, iv2, h⟩ := o_deliver iv (nI (wz))
    refine ⟨V, S2, iv2, fun σ0 σ g0 g a hw => ?_⟩
    refine ce_iload_n dL_act_64 rfl ?_
    refine ce_bipush (v := nI (36)) dL_act_65 (by decide) ?_
    refine ce_idiv (z := nI ((yz) / (36))) dL_act_67 (nI_ne0 (by omega) (by omega)) (pk_div (by omega) (by omega) (by omega)) ?_
    refine ce_istore dL_act_68 (Nat.le_of_ble_eq_true rfl) rfl ?_
    refine ce_iload_n dL_act_70 rfl ?_
    refine ce_bipush (v := nI (24)) dL_act_71 (by decide) ?_
    refine ce_irem (z := nI (12)) dL_act_73 (nI_ne0 (by omega) (by omega)) ((pk_rem (by omega) (by omega) (by omega)).trans (congrArg nI hk)) ?_
    refine ce_tableIn (off := 170) (tgt := 244) dL_act_74 (by decide) (by decide) (by decide) (by decide) ?_
    refine ce_aload_n dL_act_244 rfl ?_
    refine ce_iload dL_act_245 rfl ?_
    refine kc_Wk (V := V) dL_act_247 hL_deliver kRL_152 (h _ _ _ _ _ hw) rfl rfl (by decide) (Nat.le_of_ble_eq_true rfl) rfl (by decide) (fun cs1 cg1 hcg1 => ?_)
    exact ce_lret dL_act_250 rfl (by decide) (by decide) ⟨rfl, hcg1⟩
  · obtain ⟨V, S2, iv2, h⟩ := o_deliver iv (nI (wz))
    refine ⟨V, S2, iv2, fun σ0 σ g0 g a hw => ?_⟩
    refine ce_iload_n dL_act_64 rfl ?_
    refine ce_bipush (v := nI (36)) dL_act_65 (by decide) ?_
    refine ce_idiv (z := nI ((yz) / (36))) dL_act_67 (nI_ne0 (by omega) (by omega)) (pk_div (by omega) (by omega) (by omega)) ?_
    refine ce_istore dL_act_68 (Nat.le_of_ble_eq_true rfl) rfl ?_
    refine ce_iload_n dL_act_70 rfl ?_
    refine ce_bipush (v := nI (24)) dL_act_71 (by decide) ?_
    refine ce_irem (z := nI (13)) dL_act_73 (nI_ne0 (by omega) (by omega)) ((pk_rem (by omega) (by omega) (by omega)).trans (congrArg nI hk)) ?_
    refine ce_tableIn (off := 170) (tgt := 244) dL_act_74 (by decide) (by decide) (by decide) (by decide) ?_
    refine ce_aload_n dL_act_244 rfl ?_
    refine ce_iload dL_act_245 rfl ?_
    refine kc_Wk (V := V) dL_act_247 hL_deliver kRL_152 (h _ _ _ _ _ hw) rfl rfl (by decide) (Nat.le_of_ble_eq_true rfl) rfl (by decide) (fun cs1 cg1 hcg1 => ?_)
    exact ce_lret dL_act_250 rfl (by decide) (by decide) ⟨rfl, hcg1⟩
  · obtain ⟨V, S2, iv2, h⟩ := o_drink iv (nI (iz)) (nI (wz)) (nI (1 + yz / 36 % 3))
    refine ⟨V, S2, iv2, fun σ0 σ g0 g a hw => ?_⟩
    refine ce_iload_n dL_act_64 rfl ?_
    refine ce_bipush (v := nI (36)) dL_act_65 (by decide) ?_
    refine ce_idiv (z := nI ((yz) / (36))) dL_act_67 (nI_ne0 (by omega) (by omega)) (pk_div (by omega) (by omega) (by omega)) ?_
    refine ce_istore dL_act_68 (Nat.le_of_ble_eq_true rfl) rfl ?_
    refine ce_iload_n dL_act_70 rfl ?_
    refine ce_bipush (v := nI (24)) dL_act_71 (by decide) ?_
    refine ce_irem (z := nI (14)) dL_act_73 (nI_ne0 (by omega) (by omega)) ((pk_rem (by omega) (by omega) (by omega)).trans (congrArg nI hk)) ?_
    refine ce_tableIn (off := 177) (tgt := 251) dL_act_74 (by decide) (by decide) (by decide) (by decide) ?_
    refine ce_aload_n dL_act_251 rfl ?_
    refine ce_iload dL_act_252 rfl ?_
    refine ce_iload dL_act_254 rfl ?_
    refine ce_iconst (v := nI (1)) dL_act_256 (by decide) ?_
    refine ce_iload dL_act_257 rfl ?_
    refine ce_iconst (v := nI (3)) dL_act_259 (by decide) ?_
    refine ce_irem (z := nI (((yz) / (36)) % (3))) dL_act_260 (nI_ne0 (by omega) (by omega)) (pk_rem (by omega) (by omega) (by omega)) ?_
    refine ce_iadd (z := nI (1 + (((yz) / (36)) % (3)))) dL_act_261 (nI_add _ _) ?_
    refine kc_Wk (V := V) dL_act_262 hL_drink kRL_139 (h _ _ _ _ _ hw) rfl rfl (by decide) (Nat.le_of_ble_eq_true rfl) rfl (by decide) (fun cs1 cg1 hcg1 => ?_)
    exact ce_lret dL_act_265 rfl (by decide) (by decide) ⟨rfl, hcg1⟩
  · obtain ⟨V, S2, iv2, h⟩ := o_drink iv (nI (iz)) (nI (wz)) (nI (1 + yz / 36 % 3))
    refine ⟨V, S2, iv2, fun σ0 σ g0 g a hw => ?_⟩
    refine ce_iload_n dL_act_64 rfl ?_
    refine ce_bipush (v := nI (36)) dL_act_65 (by decide) ?_
    refine ce_idiv (z := nI ((yz) / (36))) dL_act_67 (nI_ne0 (by omega) (by omega)) (pk_div (by omega) (by omega) (by omega)) ?_
    refine ce_istore dL_act_68 (Nat.le_of_ble_eq_true rfl) rfl ?_
    refine ce_iload_n dL_act_70 rfl ?_
    refine ce_bipush (v := nI (24)) dL_act_71 (by decide) ?_
    refine ce_irem (z := nI (15)) dL_act_73 (nI_ne0 (by omega) (by omega)) ((pk_rem (by omega) (by omega) (by omega)).trans (congrArg nI hk)) ?_
    refine ce_tableIn (off := 177) (tgt := 251) dL_act_74 (by decide) (by decide) (by decide) (by decide) ?_
    refine ce_aload_n dL_act_251 rfl ?_
    refine ce_iload dL_act_252 rfl ?_
    refine ce_iload dL_act_254 rfl ?_
    refine ce_iconst (v := nI (1)) dL_act_256 (by decide) ?_
    refine ce_iload dL_act_257 rfl ?_
    refine ce_iconst (v := nI (3)) dL_act_259 (by decide) ?_
    refine ce_irem (z := nI (((yz) / (36)) % (3))) dL_act_260 (nI_ne0 (by omega) (by omega)) (pk_rem (by omega) (by omega) (by omega)) ?_
    refine ce_iadd (z := nI (1 + (((yz) / (36)) % (3)))) dL_act_261 (nI_add _ _) ?_
    refine kc_Wk (V := V) dL_act_262 hL_drink kRL_139 (h _ _ _ _ _ hw) rfl rfl (by decide) (Nat.le_of_ble_eq_true rfl) rfl (by decide) (fun cs1 cg1 hcg1 => ?_)
    exact ce_lret dL_act_265 rfl (by decide) (by decide) ⟨rfl, hcg1⟩
  · obtain ⟨V, S2, iv2, h⟩ := o_drink iv (nI (iz)) (nI (wz)) (nI (1 + yz / 36 % 3))
    refine ⟨V, S2, iv2, fun σ0 σ g0 g a hw => ?_⟩
    refine ce_iload_n dL_act_64 rfl ?_
    refine ce_bipush (v := nI (36)) dL_act_65 (by decide) ?_
    refine ce_idiv (z := nI ((yz) / (36))) dL_act_67 (nI_ne0 (by omega) (by omega)) (pk_div (by omega) (by omega) (by omega)) ?_
    refine ce_istore dL_act_68 (Nat.le_of_ble_eq_true rfl) rfl ?_
    refine ce_iload_n dL_act_70 rfl ?_
    refine ce_bipush (v := nI (24)) dL_act_71 (by decide) ?_
    refine ce_irem (z := nI (16)) dL_act_73 (nI_ne0 (by omega) (by omega)) ((pk_rem (by omega) (by omega) (by omega)).trans (congrArg nI hk)) ?_
    refine ce_tableIn (off := 177) (tgt := 251) dL_act_74 (by decide) (by decide) (by decide) (by decide) ?_
    refine ce_aload_n dL_act_251 rfl ?_
    refine ce_iload dL_act_252 rfl ?_
    refine ce_iload dL_act_254 rfl ?_
    refine ce_iconst (v := nI (1)) dL_act_256 (by decide) ?_
    refine ce_iload dL_act_257 rfl ?_
    refine ce_iconst (v := nI (3)) dL_act_259 (by decide) ?_
    refine ce_irem (z := nI (((yz) / (36)) % (3))) dL_act_260 (nI_ne0 (by omega) (by omega)) (pk_rem (by omega) (by omega) (by omega)) ?_
    refine ce_iadd (z := nI (1 + (((yz) / (36)) % (3)))) dL_act_261 (nI_add _ _) ?_
    refine kc_Wk (V := V) dL_act_262 hL_drink kRL_139 (h _ _ _ _ _ hw) rfl rfl (by decide) (Nat.le_of_ble_eq_true rfl) rfl (by decide) (fun cs1 cg1 hcg1 => ?_)
    exact ce_lret dL_act_265 rfl (by decide) (by decide) ⟨rfl, hcg1⟩
  · obtain ⟨V, S2, iv2, h⟩ := o_give iv (nI (iz)) (nI (yz / 36 % 6)) (nI (wz)) (nI (1 + yz / 36 / 6 % 3))
    refine ⟨V, S2, iv2, fun σ0 σ g0 g a hw => ?_⟩
    refine ce_iload_n dL_act_64 rfl ?_
    refine ce_bipush (v := nI (36)) dL_act_65 (by decide) ?_
    refine ce_idiv (z := nI ((yz) / (36))) dL_act_67 (nI_ne0 (by omega) (by omega)) (pk_div (by omega) (by omega) (by omega)) ?_
    refine ce_istore dL_act_68 (Nat.le_of_ble_eq_true rfl) rfl ?_
    refine ce_iload_n dL_act_70 rfl ?_
    refine ce_bipush (v := nI (24)) dL_act_71 (by decide) ?_
    refine ce_irem (z := nI (17)) dL_act_73 (nI_ne0 (by omega) (by omega)) ((pk_rem (by omega) (by omega) (by omega)).trans (congrArg nI hk)) ?_
    refine ce_tableIn (off := 192) (tgt := 266) dL_act_74 (by decide) (by decide) (by decide) (by decide) ?_
    refine ce_aload_n dL_act_266 rfl ?_
    refine ce_iload dL_act_267 rfl ?_
    refine ce_iload dL_act_269 rfl ?_
    refine ce_bipush (v := nI (6)) dL_act_271 (by decide) ?_
    refine ce_irem (z := nI (((yz) / (36)) % (6))) dL_act_273 (nI_ne0 (by omega) (by omega)) (pk_rem (by omega) (by omega) (by omega)) ?_
    refine ce_iload dL_act_274 rfl ?_
    refine ce_iconst (v := nI (1)) dL_act_276 (by decide) ?_
    refine ce_iload dL_act_277 rfl ?_
    refine ce_bipush (v := nI (6)) dL_act_279 (by decide) ?_
    refine ce_idiv (z := nI (((yz) / (36)) / (6))) dL_act_281 (nI_ne0 (by omega) (by omega)) (pk_div (by omega) (by omega) (by omega)) ?_
    refine ce_iconst (v := nI (3)) dL_act_282 (by decide) ?_
    refine ce_irem (z := nI ((((yz) / (36)) / (6)) % (3))) dL_act_283 (nI_ne0 (by omega) (by omega)) (pk_rem (by omega) (by omega) (by omega)) ?_
    refine ce_iadd (z := nI (1 + ((((yz) / (36)) / (6)) % (3)))) dL_act_284 (nI_add _ _) ?_
    refine kc_Wk (V := V) dL_act_285 hL_give kRL_141 (h _ _ _ _ _ hw) rfl rfl (by decide) (Nat.le_of_ble_eq_true rfl) rfl (by decide) (fun cs1 cg1 hcg1 => ?_)
    exact ce_lret dL_act_288 rfl (by decide) (by decide) ⟨rfl, hcg1⟩
  · obtain ⟨V, S2, iv2, h⟩ := o_give iv (nI (iz)) (nI (yz / 36 % 6)) (nI (wz)) (nI (1 + yz / 36 / 6 % 3))
    refine ⟨V, S2, iv2, fun σ0 σ g0 g a hw => ?_⟩
    refine ce_iload_n dL_act_64 rfl ?_
    refine ce_bipush (v := nI (36)) dL_act_65 (by decide) ?_
    refine ce_idiv (z := nI ((yz) / (36))) dL_act_67 (nI_ne0 (by omega) (by omega)) (pk_div (by omega) (by omega) (by omega)) ?_
    refine ce_istore dL_act_68 (Nat.le_of_ble_eq_true rfl) rfl ?_
    refine ce_iload_n dL_act_70 rfl ?_
    refine ce_bipush (v := nI (24)) dL_act_71 (by decide) ?_
    refine ce_irem (z := nI (18)) dL_act_73 (nI_ne0 (by omega) (by omega)) ((pk_rem (by omega) (by omega) (by omega)).trans (congrArg nI hk)) ?_
    refine ce_tableIn (off := 192) (tgt := 266) dL_act_74 (by decide) (by decide) (by decide) (by decide) ?_
    refine ce_aload_n dL_act_266 rfl ?_
    refine ce_iload dL_act_267 rfl ?_
    refine ce_iload dL_act_269 rfl ?_
    refine ce_bipush (v := nI (6)) dL_act_271 (by decide) ?_
    refine ce_irem (z := nI (((yz) / (36)) % (6))) dL_act_273 (nI_ne0 (by omega) (by omega)) (pk_rem (by omega) (by omega) (by omega)) ?_
    refine ce_iload dL_act_274 rfl ?_
    refine ce_iconst (v := nI (1)) dL_act_276 (by decide) ?_
    refine ce_iload dL_act_277 rfl ?_
    refine ce_bipush (v := nI (6)) dL_act_279 (by decide) ?_
    refine ce_idiv (z := nI (((yz) / (36)) / (6))) dL_act_281 (nI_ne0 (by omega) (by omega)) (pk_div (by omega) (by omega) (by omega)) ?_
    refine ce_iconst (v := nI (3)) dL_act_282 (by decide) ?_
    refine ce_irem (z := nI ((((yz) / (36)) / (6)) % (3))) dL_act_283 (nI_ne0 (by omega) (by omega)) (pk_rem (by omega) (by omega) (by omega)) ?_
    refine ce_iadd (z := nI (1 + ((((yz) / (36)) / (6)) % (3)))) dL_act_284 (nI_add _ _) ?_
    refine kc_Wk (V := V) dL_act_285 hL_give kRL_141 (h _ _ _ _ _ hw) rfl rfl (by decide) (Nat.le_of_ble_eq_true rfl) rfl (by decide) (fun cs1 cg1 hcg1 => ?_)
    exact ce_lret dL_act_288 rfl (by decide) (by decide) ⟨rfl, hcg1⟩
  · obtain ⟨V, S2, iv2, h⟩ := o_cork iv (nI (iz)) (nI (wz))
    refine ⟨V, S2, iv2, fun σ0 σ g0 g a hw => ?_⟩
    refine ce_iload_n dL_act_64 rfl ?_
    refine ce_bipush (v := nI (36)) dL_act_65 (by decide) ?_
    refine ce_idiv (z := nI ((yz) / (36))) dL_act_67 (nI_ne0 (by omega) (by omega)) (pk_div (by omega) (by omega) (by omega)) ?_
    refine ce_istore dL_act_68 (Nat.le_of_ble_eq_true rfl) rfl ?_
    refine ce_iload_n dL_act_70 rfl ?_
    refine ce_bipush (v := nI (24)) dL_act_71 (by decide) ?_
    refine ce_irem (z := nI (19)) dL_act_73 (nI_ne0 (by omega) (by omega)) ((pk_rem (by omega) (by omega) (by omega)).trans (congrArg nI hk)) ?_
    refine ce_tableIn (off := 215) (tgt := 289) dL_act_74 (by decide) (by decide) (by decide) (by decide) ?_
    refine ce_aload_n dL_act_289 rfl ?_
    refine ce_iload dL_act_290 rfl ?_
    refine ce_iload dL_act_292 rfl ?_
    refine kc_Wk (V := V) dL_act_294 hL_cork kRL_154 (h _ _ _ _ _ hw) rfl rfl (by decide) (Nat.le_of_ble_eq_true rfl) rfl (by decide) (fun cs1 cg1 hcg1 => ?_)
    exact ce_lret dL_act_297 rfl (by decide) (by decide) ⟨rfl, hcg1⟩
  · obtain ⟨V, S2, iv2, h⟩ := o_move iv (nI (yz / 36 % 8)) (nI (yz / 36 / 8 % 8)) (nI (1 + yz / 36 / 64 % 4))
    refine ⟨V, S2, iv2, fun σ0 σ g0 g a hw => ?_⟩
    refine ce_iload_n dL_act_64 rfl ?_
    refine ce_bipush (v := nI (36)) dL_act_65 (by decide) ?_
    refine ce_idiv (z := nI ((yz) / (36))) dL_act_67 (nI_ne0 (by omega) (by omega)) (pk_div (by omega) (by omega) (by omega)) ?_
    refine ce_istore dL_act_68 (Nat.le_of_ble_eq_true rfl) rfl ?_
    refine ce_iload_n dL_act_70 rfl ?_
    refine ce_bipush (v := nI (24)) dL_act_71 (by decide) ?_
    refine ce_irem (z := nI (20)) dL_act_73 (nI_ne0 (by omega) (by omega)) ((pk_rem (by omega) (by omega) (by omega)).trans (congrArg nI hk)) ?_
    refine ce_tableIn (off := 224) (tgt := 298) dL_act_74 (by decide) (by decide) (by decide) (by decide) ?_
    refine ce_aload_n dL_act_298 rfl ?_
    refine ce_iload dL_act_299 rfl ?_
    refine ce_bipush (v := nI (8)) dL_act_301 (by decide) ?_
    refine ce_irem (z := nI (((yz) / (36)) % (8))) dL_act_303 (nI_ne0 (by omega) (by omega)) (pk_rem (by omega) (by omega) (by omega)) ?_
    refine ce_iload dL_act_304 rfl ?_
    refine ce_bipush (v := nI (8)) dL_act_306 (by decide) ?_
    refine ce_idiv (z := nI (((yz) / (36)) / (8))) dL_act_308 (nI_ne0 (by omega) (by omega)) (pk_div (by omega) (by omega) (by omega)) ?_
    refine ce_bipush (v := nI (8)) dL_act_309 (by decide) ?_
    refine ce_irem (z := nI ((((yz) / (36)) / (8)) % (8))) dL_act_311 (nI_ne0 (by omega) (by omega)) (pk_rem (by omega) (by omega) (by omega)) ?_
    refine ce_iconst (v := nI (1)) dL_act_312 (by decide) ?_
    refine ce_iload dL_act_313 rfl ?_
    refine ce_bipush (v := nI (64)) dL_act_315 (by decide) ?_
    refine ce_idiv (z := nI (((yz) / (36)) / (64))) dL_act_317 (nI_ne0 (by omega) (by omega)) (pk_div (by omega) (by omega) (by omega)) ?_
    refine ce_iconst (v := nI (4)) dL_act_318 (by decide) ?_
    refine ce_irem (z := nI ((((yz) / (36)) / (64)) % (4))) dL_act_319 (nI_ne0 (by omega) (by omega)) (pk_rem (by omega) (by omega) (by omega)) ?_
    refine ce_iadd (z := nI (1 + ((((yz) / (36)) / (64)) % (4)))) dL_act_320 (nI_add _ _) ?_
    refine kc_Wk (V := V) dL_act_321 hL_move kRL_135 (h _ _ _ _ _ hw) rfl rfl (by decide) (Nat.le_of_ble_eq_true rfl) rfl (by decide) (fun cs1 cg1 hcg1 => ?_)
    exact ce_lret dL_act_324 rfl (by decide) (by decide) ⟨rfl, hcg1⟩
  · obtain ⟨V, S2, iv2, h⟩ := o_pay iv (nI (iz))
    refine ⟨V, S2, iv2, fun σ0 σ g0 g a hw => ?_⟩
    refine ce_iload_n dL_act_64 rfl ?_
    refine ce_bipush (v := nI (36)) dL_act_65 (by decide) ?_
    refine ce_idiv (z := nI ((yz) / (36))) dL_act_67 (nI_ne0 (by omega) (by omega)) (pk_div (by omega) (by omega) (by omega)) ?_
    refine ce_istore dL_act_68 (Nat.le_of_ble_eq_true rfl) rfl ?_
    refine ce_iload_n dL_act_70 rfl ?_
    refine ce_bipush (v := nI (24)) dL_act_71 (by decide) ?_
    refine ce_irem (z := nI (21)) dL_act_73 (nI_ne0 (by omega) (by omega)) ((pk_rem (by omega) (by omega) (by omega)).trans (congrArg nI hk)) ?_
    refine ce_tableIn (off := 251) (tgt := 325) dL_act_74 (by decide) (by decide) (by decide) (by decide) ?_
    refine ce_aload_n dL_act_325 rfl ?_
    refine ce_iload dL_act_326 rfl ?_
    refine kc_Wk (V := V) dL_act_328 hL_pay kRL_156 (h _ _ _ _ _ hw) rfl rfl (by decide) (Nat.le_of_ble_eq_true rfl) rfl (by decide) (fun cs1 cg1 hcg1 => ?_)
    exact ce_lret dL_act_331 rfl (by decide) (by decide) ⟨rfl, hcg1⟩
  · obtain ⟨V, S2, iv2, h⟩ := o_undo iv 
    refine ⟨V, S2, iv2, fun σ0 σ g0 g a hw => ?_⟩
    refine ce_iload_n dL_act_64 rfl ?_
    refine ce_bipush (v := nI (36)) dL_act_65 (by decide) ?_
    refine ce_idiv (z := nI ((yz) / (36))) dL_act_67 (nI_ne0 (by omega) (by omega)) (pk_div (by omega) (by omega) (by omega)) ?_
    refine ce_istore dL_act_68 (Nat.le_of_ble_eq_true rfl) rfl ?_
    refine ce_iload_n dL_act_70 rfl ?_
    refine ce_bipush (v := nI (24)) dL_act_71 (by decide) ?_
    refine ce_irem (z := nI (22)) dL_act_73 (nI_ne0 (by omega) (by omega)) ((pk_rem (by omega) (by omega) (by omega)).trans (congrArg nI hk)) ?_
    refine ce_tableIn (off := 258) (tgt := 332) dL_act_74 (by decide) (by decide) (by decide) (by decide) ?_
    refine ce_aload_n dL_act_332 rfl ?_
    refine kc_Wk (V := V) dL_act_333 hL_undo kRL_198 (h _ _ _ _ _ hw) rfl rfl (by decide) (Nat.le_of_ble_eq_true rfl) rfl (by decide) (fun cs1 cg1 hcg1 => ?_)
    exact ce_lret dL_act_336 rfl (by decide) (by decide) ⟨rfl, hcg1⟩
  · by_cases hz2 : yz / 36 % 2 = 0
    · obtain ⟨V, S2, iv2, h⟩ := o_save iv (nI (yz / 36 / 2 % 2))
      refine ⟨V, S2, iv2, fun σ0 σ g0 g a hw => ?_⟩
      refine ce_iload_n dL_act_64 rfl ?_
      refine ce_bipush (v := nI (36)) dL_act_65 (by decide) ?_
      refine ce_idiv (z := nI ((yz) / (36))) dL_act_67 (nI_ne0 (by omega) (by omega)) (pk_div (by omega) (by omega) (by omega)) ?_
      refine ce_istore dL_act_68 (Nat.le_of_ble_eq_true rfl) rfl ?_
      refine ce_iload_n dL_act_70 rfl ?_
      refine ce_bipush (v := nI (24)) dL_act_71 (by decide) ?_
      refine ce_irem (z := nI (23)) dL_act_73 (nI_ne0 (by omega) (by omega)) ((pk_rem (by omega) (by omega) (by omega)).trans (congrArg nI hk)) ?_
      refine ce_tableOut (tgt := 337) dL_act_74 (by decide) (by decide) ?_
      refine ce_iload dL_act_337 rfl ?_
      refine ce_iconst (v := nI (2)) dL_act_339 (by decide) ?_
      refine ce_irem (z := nI (((yz) / (36)) % (2))) dL_act_340 (nI_ne0 (by omega) (by omega)) (pk_rem (by omega) (by omega) (by omega)) ?_
      refine ce_if_neN (tgt := 357) dL_act_341 (by decide) rfl (by omega) (fun c_341 => ?_) (fun c_341 => ?_)
      · omega
      · refine ce_aload_n dL_act_344 rfl ?_
        refine ce_iload dL_act_345 rfl ?_
        refine ce_iconst (v := nI (2)) dL_act_347 (by decide) ?_
        refine ce_idiv (z := nI (((yz) / (36)) / (2))) dL_act_348 (nI_ne0 (by omega) (by omega)) (pk_div (by omega) (by omega) (by omega)) ?_
        refine ce_iconst (v := nI (1)) dL_act_349 (by decide) ?_
        refine ce_iand (z := nI (((yz) / (36)) / (2) % 2)) dL_act_350 (tx_1 _) ?_
        refine kc_Wk (V := V) dL_act_351 hL_save kRL_177 (h _ _ _ _ _ hw) rfl rfl (by decide) (Nat.le_of_ble_eq_true rfl) rfl (by decide) (fun cs1 cg1 hcg1 => ?_)
        refine ce_goto (tgt := 367) dL_act_354 (by decide) ?_
        exact ce_lret dL_act_367 rfl (by decide) (by decide) ⟨rfl, hcg1⟩
    · obtain ⟨V, S2, iv2, h⟩ := o_restore iv (nI (yz / 36 / 2 % 2))
      refine ⟨V, S2, iv2, fun σ0 σ g0 g a hw => ?_⟩
      refine ce_iload_n dL_act_64 rfl ?_
      refine ce_bipush (v := nI (36)) dL_act_65 (by decide) ?_
      refine ce_idiv (z := nI ((yz) / (36))) dL_act_67 (nI_ne0 (by omega) (by omega)) (pk_div (by omega) (by omega) (by omega)) ?_
      refine ce_istore dL_act_68 (Nat.le_of_ble_eq_true rfl) rfl ?_
      refine ce_iload_n dL_act_70 rfl ?_
      refine ce_bipush (v := nI (24)) dL_act_71 (by decide) ?_
      refine ce_irem (z := nI (23)) dL_act_73 (nI_ne0 (by omega) (by omega)) ((pk_rem (by omega) (by omega) (by omega)).trans (congrArg nI hk)) ?_
      refine ce_tableOut (tgt := 337) dL_act_74 (by decide) (by decide) ?_
      refine ce_iload dL_act_337 rfl ?_
      refine ce_iconst (v := nI (2)) dL_act_339 (by decide) ?_
      refine ce_irem (z := nI (((yz) / (36)) % (2))) dL_act_340 (nI_ne0 (by omega) (by omega)) (pk_rem (by omega) (by omega) (by omega)) ?_
      refine ce_if_neN (tgt := 357) dL_act_341 (by decide) rfl (by omega) (fun c_341 => ?_) (fun c_341 => ?_)
      · refine ce_aload_n dL_act_357 rfl ?_
        refine ce_iload dL_act_358 rfl ?_
        refine ce_iconst (v := nI (2)) dL_act_360 (by decide) ?_
        refine ce_idiv (z := nI (((yz) / (36)) / (2))) dL_act_361 (nI_ne0 (by omega) (by omega)) (pk_div (by omega) (by omega) (by omega)) ?_
        refine ce_iconst (v := nI (1)) dL_act_362 (by decide) ?_
        refine ce_iand (z := nI (((yz) / (36)) / (2) % 2)) dL_act_363 (tx_1 _) ?_
        refine kc_Wk (V := V) dL_act_364 hL_restore kRL_179 (h _ _ _ _ _ hw) rfl rfl (by decide) (Nat.le_of_ble_eq_true rfl) rfl (by decide) (fun cs1 cg1 hcg1 => ?_)
        exact ce_lret dL_act_367 rfl (by decide) (by decide) ⟨rfl, hcg1⟩
      · omega
set_option maxHeartbeats 2000000 in
set_option maxRecDepth 20000 in
theorem o_act {xz yz : Nat} {S : ks_S} (hx : xz < 2147483648) (hy : yz < 2147483648) (iv : kl_iv S) : ∃ (V : Int64) (S2 : ks_S), kl_iv S2 ∧ ∀ (σ0 σ : ce_S) (g0 g : ce_D) (a : Nat), kw a S σ0 g0 σ g → ce_CT (ce_rl 1 1) mL_act [.ref a, .int (nI (xz)), .int (nI (yz))] σ g (kq σ0 g0 a S2 V) ce_no := by
  have b9 := iv.ok.1.b
  by_cases hM : sK S 0 0 = 0
  · by_cases hW : sK S 0 1 = 0
    · obtain ⟨V, S2, iv2, h⟩ := ac_s (iz := yz % 6) (wz := yz / 6 % 6) hx hy iv
      refine ⟨V, S2, iv2, fun σ0 σ g0 g a hw => ?_⟩
      refine ce_enter (by decide) rfl (Nat.le_of_ble_eq_true rfl) (L := [some (.ref (a)), some (.int (nI (xz))), some (.int (nI (yz))), none, none, none, none, none]) rfl ?_
      show ce_WP (ce_rl 1 1) mL_act 0 (6 * 0) 0 _ _ _ _ _ _
      refine ce_iload_n dL_act_0 rfl ?_
      refine ce_bipush (v := nI (6)) dL_act_1 (by decide) ?_
      refine ce_irem (z := nI ((yz) % (6))) dL_act_3 (nI_ne0 (by omega) (by omega)) (pk_rem (by omega) (by omega) (by omega)) ?_
      refine ce_istore_n dL_act_4 (Nat.le_of_ble_eq_true rfl) rfl ?_
      refine ce_iload_n dL_act_5 rfl ?_
      refine ce_bipush (v := nI (6)) dL_act_6 (by decide) ?_
      refine ce_idiv (z := nI ((yz) / (6))) dL_act_8 (nI_ne0 (by omega) (by omega)) (pk_div (by omega) (by omega) (by omega)) ?_
      refine ce_bipush (v := nI (6)) dL_act_9 (by decide) ?_
      refine ce_irem (z := nI (((yz) / (6)) % (6))) dL_act_11 (nI_ne0 (by omega) (by omega)) (pk_rem (by omega) (by omega) (by omega)) ?_
      refine ce_istore dL_act_12 (Nat.le_of_ble_eq_true rfl) rfl ?_
      refine ce_aload_n dL_act_14 rfl ?_
      refine ce_iconst (v := nI (0)) dL_act_15 (by decide) ?_
      refine kc_Wj (V := lN (sK S 0 0)) dL_act_16 hL_about kRL_112 (q_about0 hw iv) rfl rfl (by decide) (Nat.le_of_ble_eq_true rfl) rfl (by decide) ?_
      refine ce_lconst (v := lN 0) dL_act_19 (by decide) ?_
      refine ce_lcmp (z := lg_cmp (lN (sK S 0 0)) (lN (0))) dL_act_20 rfl ?_
      refine ce_if_neL (a := sK S 0 0) (b := 0) (tgt := 28) dL_act_21 (by decide) rfl (by omega) (by omega) (fun c_21 => ?_) (fun c_21 => ?_)
      · omega
      · refine ce_iload_n dL_act_24 rfl ?_
        refine ce_goto (tgt := 36) dL_act_25 (by decide) ?_
        refine ce_istore dL_act_36 (Nat.le_of_ble_eq_true rfl) rfl ?_
        refine ce_aload_n dL_act_38 rfl ?_
        refine ce_iconst (v := nI (1)) dL_act_39 (by decide) ?_
        refine kc_Wj (V := lN (sK S 0 1)) dL_act_40 hL_about kRL_112 (q_about1 hw iv) rfl rfl (by decide) (Nat.le_of_ble_eq_true rfl) rfl (by decide) ?_
        refine ce_lconst (v := lN 0) dL_act_43 (by decide) ?_
        refine ce_lcmp (z := lg_cmp (lN (sK S 0 1)) (lN (0))) dL_act_44 rfl ?_
        refine ce_if_neL (a := sK S 0 1) (b := 0) (tgt := 53) dL_act_45 (by decide) rfl (by omega) (by omega) (fun c_45 => ?_) (fun c_45 => ?_)
        · omega
        · refine ce_iload dL_act_48 rfl ?_
          refine ce_goto (tgt := 62) dL_act_50 (by decide) ?_
          refine ce_istore dL_act_62 (Nat.le_of_ble_eq_true rfl) rfl ?_
          refine ce_drop (L' := [some (.ref (a)), some (.int (nI (xz))), some (.int (nI (yz))), none, none, some (.int (nI ((yz) % (6)))), some (.int (nI (((yz) / (6)) % (6)))), none]) (ce_le_s rfl (ce_le_s rfl (ce_le_s rfl (ce_le_n (ce_le_n (ce_le_s rfl (ce_le_s rfl (ce_le_n ce_le_e)))))))) ?_
          exact h _ _ _ _ _ hw
    · obtain ⟨V, S2, iv2, h⟩ := ac_s (iz := yz % 6) (wz := yz / 6 % 6 % sK S 0 1) hx hy iv
      refine ⟨V, S2, iv2, fun σ0 σ g0 g a hw => ?_⟩
      refine ce_enter (by decide) rfl (Nat.le_of_ble_eq_true rfl) (L := [some (.ref (a)), some (.int (nI (xz))), some (.int (nI (yz))), none, none, none, none, none]) rfl ?_
      show ce_WP (ce_rl 1 1) mL_act 0 (6 * 0) 0 _ _ _ _ _ _
      refine ce_iload_n dL_act_0 rfl ?_
      refine ce_bipush (v := nI (6)) dL_act_1 (by decide) ?_
      refine ce_irem (z := nI ((yz) % (6))) dL_act_3 (nI_ne0 (by omega) (by omega)) (pk_rem (by omega) (by omega) (by omega)) ?_
      refine ce_istore_n dL_act_4 (Nat.le_of_ble_eq_true rfl) rfl ?_
      refine ce_iload_n dL_act_5 rfl ?_
      refine ce_bipush (v := nI (6)) dL_act_6 (by decide) ?_
      refine ce_idiv (z := nI ((yz) / (6))) dL_act_8 (nI_ne0 (by omega) (by omega)) (pk_div (by omega) (by omega) (by omega)) ?_
      refine ce_bipush (v := nI (6)) dL_act_9 (by decide) ?_
      refine ce_irem (z := nI (((yz) / (6)) % (6))) dL_act_11 (nI_ne0 (by omega) (by omega)) (pk_rem (by omega) (by omega) (by omega)) ?_
      refine ce_istore dL_act_12 (Nat.le_of_ble_eq_true rfl) rfl ?_
      refine ce_aload_n dL_act_14 rfl ?_
      refine ce_iconst (v := nI (0)) dL_act_15 (by decide) ?_
      refine kc_Wj (V := lN (sK S 0 0)) dL_act_16 hL_about kRL_112 (q_about0 hw iv) rfl rfl (by decide) (Nat.le_of_ble_eq_true rfl) rfl (by decide) ?_
      refine ce_lconst (v := lN 0) dL_act_19 (by decide) ?_
      refine ce_lcmp (z := lg_cmp (lN (sK S 0 0)) (lN (0))) dL_act_20 rfl ?_
      refine ce_if_neL (a := sK S 0 0) (b := 0) (tgt := 28) dL_act_21 (by decide) rfl (by omega) (by omega) (fun c_21 => ?_) (fun c_21 => ?_)
      · omega
      · refine ce_iload_n dL_act_24 rfl ?_
        refine ce_goto (tgt := 36) dL_act_25 (by decide) ?_
        refine ce_istore dL_act_36 (Nat.le_of_ble_eq_true rfl) rfl ?_
        refine ce_aload_n dL_act_38 rfl ?_
        refine ce_iconst (v := nI (1)) dL_act_39 (by decide) ?_
        refine kc_Wj (V := lN (sK S 0 1)) dL_act_40 hL_about kRL_112 (q_about1 hw iv) rfl rfl (by decide) (Nat.le_of_ble_eq_true rfl) rfl (by decide) ?_
        refine ce_lconst (v := lN 0) dL_act_43 (by decide) ?_
        refine ce_lcmp (z := lg_cmp (lN (sK S 0 1)) (lN (0))) dL_act_44 rfl ?_
        refine ce_if_neL (a := sK S 0 1) (b := 0) (tgt := 53) dL_act_45 (by decide) rfl (by omega) (by omega) (fun c_45 => ?_) (fun c_45 => ?_)
        · refine ce_iload dL_act_53 rfl ?_
          refine ce_aload_n dL_act_55 rfl ?_
          refine ce_iconst (v := nI (1)) dL_act_56 (by decide) ?_
          refine kc_Wj (V := lN (sK S 0 1)) dL_act_57 hL_about kRL_112 (q_about1 hw iv) rfl rfl (by decide) (Nat.le_of_ble_eq_true rfl) rfl (by decide) ?_
          refine ce_l2i (v := nI (sK S 0 1)) dL_act_60 (lN_i _) ?_
          refine ce_irem (z := nI ((((yz) / (6)) % (6)) % (sK S 0 1))) dL_act_61 (nI_ne0 (by omega) (by omega)) (pk_rem (by omega) (by omega) (by omega)) ?_
          refine ce_istore dL_act_62 (Nat.le_of_ble_eq_true rfl) rfl ?_
          refine ce_drop (L' := [some (.ref (a)), some (.int (nI (xz))), some (.int (nI (yz))), none, none, some (.int (nI ((yz) % (6)))), some (.int (nI ((((yz) / (6)) % (6)) % (sK S 0 1)))), none]) (ce_le_s rfl (ce_le_s rfl (ce_le_s rfl (ce_le_n (ce_le_n (ce_le_s rfl (ce_le_s rfl (ce_le_n ce_le_e)))))))) ?_
          exact h _ _ _ _ _ hw
        · omega
  · by_cases hW : sK S 0 1 = 0
    · obtain ⟨V, S2, iv2, h⟩ := ac_s (iz := yz % 6 % sK S 0 0) (wz := yz / 6 % 6) hx hy iv
      refine ⟨V, S2, iv2, fun σ0 σ g0 g a hw => ?_⟩
      refine ce_enter (by decide) rfl (Nat.le_of_ble_eq_true rfl) (L := [some (.ref (a)), some (.int (nI (xz))), some (.int (nI (yz))), none, none, none, none, none]) rfl ?_
      show ce_WP (ce_rl 1 1) mL_act 0 (6 * 0) 0 _ _ _ _ _ _
      refine ce_iload_n dL_act_0 rfl ?_
      refine ce_bipush (v := nI (6)) dL_act_1 (by decide) ?_
      refine ce_irem (z := nI ((yz) % (6))) dL_act_3 (nI_ne0 (by omega) (by omega)) (pk_rem (by omega) (by omega) (by omega)) ?_
      refine ce_istore_n dL_act_4 (Nat.le_of_ble_eq_true rfl) rfl ?_
      refine ce_iload_n dL_act_5 rfl ?_
      refine ce_bipush (v := nI (6)) dL_act_6 (by decide) ?_
      refine ce_idiv (z := nI ((yz) / (6))) dL_act_8 (nI_ne0 (by omega) (by omega)) (pk_div (by omega) (by omega) (by omega)) ?_
      refine ce_bipush (v := nI (6)) dL_act_9 (by decide) ?_
      refine ce_irem (z := nI (((yz) / (6)) % (6))) dL_act_11 (nI_ne0 (by omega) (by omega)) (pk_rem (by omega) (by omega) (by omega)) ?_
      refine ce_istore dL_act_12 (Nat.le_of_ble_eq_true rfl) rfl ?_
      refine ce_aload_n dL_act_14 rfl ?_
      refine ce_iconst (v := nI (0)) dL_act_15 (by decide) ?_
      refine kc_Wj (V := lN (sK S 0 0)) dL_act_16 hL_about kRL_112 (q_about0 hw iv) rfl rfl (by decide) (Nat.le_of_ble_eq_true rfl) rfl (by decide) ?_
      refine ce_lconst (v := lN 0) dL_act_19 (by decide) ?_
      refine ce_lcmp (z := lg_cmp (lN (sK S 0 0)) (lN (0))) dL_act_20 rfl ?_
      refine ce_if_neL (a := sK S 0 0) (b := 0) (tgt := 28) dL_act_21 (by decide) rfl (by omega) (by omega) (fun c_21 => ?_) (fun c_21 => ?_)
      · refine ce_iload_n dL_act_28 rfl ?_
        refine ce_aload_n dL_act_29 rfl ?_
        refine ce_iconst (v := nI (0)) dL_act_30 (by decide) ?_
        refine kc_Wj (V := lN (sK S 0 0)) dL_act_31 hL_about kRL_112 (q_about0 hw iv) rfl rfl (by decide) (Nat.le_of_ble_eq_true rfl) rfl (by decide) ?_
        refine ce_l2i (v := nI (sK S 0 0)) dL_act_34 (lN_i _) ?_
        refine ce_irem (z := nI (((yz) % (6)) % (sK S 0 0))) dL_act_35 (nI_ne0 (by omega) (by omega)) (pk_rem (by omega) (by omega) (by omega)) ?_
        refine ce_istore dL_act_36 (Nat.le_of_ble_eq_true rfl) rfl ?_
        refine ce_aload_n dL_act_38 rfl ?_
        refine ce_iconst (v := nI (1)) dL_act_39 (by decide) ?_
        refine kc_Wj (V := lN (sK S 0 1)) dL_act_40 hL_about kRL_112 (q_about1 hw iv) rfl rfl (by decide) (Nat.le_of_ble_eq_true rfl) rfl (by decide) ?_
        refine ce_lconst (v := lN 0) dL_act_43 (by decide) ?_
        refine ce_lcmp (z := lg_cmp (lN (sK S 0 1)) (lN (0))) dL_act_44 rfl ?_
        refine ce_if_neL (a := sK S 0 1) (b := 0) (tgt := 53) dL_act_45 (by decide) rfl (by omega) (by omega) (fun c_45 => ?_) (fun c_45 => ?_)
        · omega
        · refine ce_iload dL_act_48 rfl ?_
          refine ce_goto (tgt := 62) dL_act_50 (by decide) ?_
          refine ce_istore dL_act_62 (Nat.le_of_ble_eq_true rfl) rfl ?_
          refine ce_drop (L' := [some (.ref (a)), some (.int (nI (xz))), some (.int (nI (yz))), none, none, some (.int (nI (((yz) % (6)) % (sK S 0 0)))), some (.int (nI (((yz) / (6)) % (6)))), none]) (ce_le_s rfl (ce_le_s rfl (ce_le_s rfl (ce_le_n (ce_le_n (ce_le_s rfl (ce_le_s rfl (ce_le_n ce_le_e)))))))) ?_
          exact h _ _ _ _ _ hw
      · omega
    · obtain ⟨V, S2, iv2, h⟩ := ac_s (iz := yz % 6 % sK S 0 0) (wz := yz / 6 % 6 % sK S 0 1) hx hy iv
      refine ⟨V, S2, iv2, fun σ0 σ g0 g a hw => ?_⟩
      refine ce_enter (by decide) rfl (Nat.le_of_ble_eq_true rfl) (L := [some (.ref (a)), some (.int (nI (xz))), some (.int (nI (yz))), none, none, none, none, none]) rfl ?_
      show ce_WP (ce_rl 1 1) mL_act 0 (6 * 0) 0 _ _ _ _ _ _
      refine ce_iload_n dL_act_0 rfl ?_
      refine ce_bipush (v := nI (6)) dL_act_1 (by decide) ?_
      refine ce_irem (z := nI ((yz) % (6))) dL_act_3 (nI_ne0 (by omega) (by omega)) (pk_rem (by omega) (by omega) (by omega)) ?_
      refine ce_istore_n dL_act_4 (Nat.le_of_ble_eq_true rfl) rfl ?_
      refine ce_iload_n dL_act_5 rfl ?_
      refine ce_bipush (v := nI (6)) dL_act_6 (by decide) ?_
      refine ce_idiv (z := nI ((yz) / (6))) dL_act_8 (nI_ne0 (by omega) (by omega)) (pk_div (by omega) (by omega) (by omega)) ?_
      refine ce_bipush (v := nI (6)) dL_act_9 (by decide) ?_
      refine ce_irem (z := nI (((yz) / (6)) % (6))) dL_act_11 (nI_ne0 (by omega) (by omega)) (pk_rem (by omega) (by omega) (by omega)) ?_
      refine ce_istore dL_act_12 (Nat.le_of_ble_eq_true rfl) rfl ?_
      refine ce_aload_n dL_act_14 rfl ?_
      refine ce_iconst (v := nI (0)) dL_act_15 (by decide) ?_
      refine kc_Wj (V := lN (sK S 0 0)) dL_act_16 hL_about kRL_112 (q_about0 hw iv) rfl rfl (by decide) (Nat.le_of_ble_eq_true rfl) rfl (by decide) ?_
      refine ce_lconst (v := lN 0) dL_act_19 (by decide) ?_
      refine ce_lcmp (z := lg_cmp (lN (sK S 0 0)) (lN (0))) dL_act_20 rfl ?_
      refine ce_if_neL (a := sK S 0 0) (b := 0) (tgt := 28) dL_act_21 (by decide) rfl (by omega) (by omega) (fun c_21 => ?_) (fun c_21 => ?_)
      · refine ce_iload_n dL_act_28 rfl ?_
        refine ce_aload_n dL_act_29 rfl ?_
        refine ce_iconst (v := nI (0)) dL_act_30 (by decide) ?_
        refine kc_Wj (V := lN (sK S 0 0)) dL_act_31 hL_about kRL_112 (q_about0 hw iv) rfl rfl (by decide) (Nat.le_of_ble_eq_true rfl) rfl (by decide) ?_
        refine ce_l2i (v := nI (sK S 0 0)) dL_act_34 (lN_i _) ?_
        refine ce_irem (z := nI (((yz) % (6)) % (sK S 0 0))) dL_act_35 (nI_ne0 (by omega) (by omega)) (pk_rem (by omega) (by omega) (by omega)) ?_
        refine ce_istore dL_act_36 (Nat.le_of_ble_eq_true rfl) rfl ?_
        refine ce_aload_n dL_act_38 rfl ?_
        refine ce_iconst (v := nI (1)) dL_act_39 (by decide) ?_
        refine kc_Wj (V := lN (sK S 0 1)) dL_act_40 hL_about kRL_112 (q_about1 hw iv) rfl rfl (by decide) (Nat.le_of_ble_eq_true rfl) rfl (by decide) ?_
        refine ce_lconst (v := lN 0) dL_act_43 (by decide) ?_
        refine ce_lcmp (z := lg_cmp (lN (sK S 0 1)) (lN (0))) dL_act_44 rfl ?_
        refine ce_if_neL (a := sK S 0 1) (b := 0) (tgt := 53) dL_act_45 (by decide) rfl (by omega) (by omega) (fun c_45 => ?_) (fun c_45 => ?_)
        · refine ce_iload dL_act_53 rfl ?_
          refine ce_aload_n dL_act_55 rfl ?_
          refine ce_iconst (v := nI (1)) dL_act_56 (by decide) ?_
          refine kc_Wj (V := lN (sK S 0 1)) dL_act_57 hL_about kRL_112 (q_about1 hw iv) rfl rfl (by decide) (Nat.le_of_ble_eq_true rfl) rfl (by decide) ?_
          refine ce_l2i (v := nI (sK S 0 1)) dL_act_60 (lN_i _) ?_
          refine ce_irem (z := nI ((((yz) / (6)) % (6)) % (sK S 0 1))) dL_act_61 (nI_ne0 (by omega) (by omega)) (pk_rem (by omega) (by omega) (by omega)) ?_
          refine ce_istore dL_act_62 (Nat.le_of_ble_eq_true rfl) rfl ?_
          refine ce_drop (L' := [some (.ref (a)), some (.int (nI (xz))), some (.int (nI (yz))), none, none, some (.int (nI (((yz) % (6)) % (sK S 0 0)))), some (.int (nI ((((yz) / (6)) % (6)) % (sK S 0 1)))), none]) (ce_le_s rfl (ce_le_s rfl (ce_le_s rfl (ce_le_n (ce_le_n (ce_le_s rfl (ce_le_s rfl (ce_le_n ce_le_e)))))))) ?_
          exact h _ _ _ _ _ hw
        · omega
      · omega
