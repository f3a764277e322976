theorem q_app {a c : Nat} {S : ks_S} {σ0 σ : ce_S} {g0 g : ce_D} (hw : kw a S σ0 g0 σ g) (iv : kl_iv S) (hc : c < 256) (hl : sl S < 120) : ce_CT (ce_rl 0 1) mL_append [.ref a, .int (nI c)] σ g (kq σ0 g0 a (ks_app S c) (lN (sl S + 1))) ce_no := by
  have h := h_append_ok (nI c) hw (fun b hX hr => kl_of_r hX (m_X7_append_ok a b S hX hr iv.ok c hc hl (by unfold kx_addF; rw [nI_toInt (by omega), if_neg (by omega), if_pos hl])))
  rw [nI_l (by omega)] at h
  exact h
set_option maxHeartbeats 2000000 in
set_option maxRecDepth 20000 in
theorem m_L_says {a cz : Nat} {S : ks_S} {σ0 σ : ce_S} {g0 g : ce_D} (hw : kw a S σ0 g0 σ g) (iv : kl_iv S) (hc : cz < 256) (hl : sl S < 120) : ce_CT (ce_rl 1 1) mL_says [.ref a, .int (nI (cz))] σ g (kb σ0 g0 a (ks_app S cz)) ce_no := by
  refine ce_enter (by decide) rfl (Nat.le_of_ble_eq_true rfl) (L := [some (.ref (a)), some (.int (nI (cz)))]) rfl ?_
  show ce_WP (ce_rl 1 1) mL_says 0 (6 * 0) 0 _ _ _ _ _ _
  refine ce_aload_n dL_says_0 rfl ?_
  refine ce_iload_n dL_says_1 rfl ?_
  refine kc_Wk (V := lN (sl S + 1)) dL_says_2 hL_append kRL_181 (q_app hw iv hc hl) rfl rfl (by decide) (Nat.le_of_ble_eq_true rfl) rfl (by decide) (fun cs1 cg1 hcg1 => ?_)
  refine ce_lconst (v := lN 0) dL_says_5 (by decide) ?_
  refine ce_lcmp (z := lg_cmp (lN (sl S + 1)) (lN (0))) dL_says_6 rfl ?_
  refine ce_if_leL (a := sl S + 1) (b := 0) (tgt := 14) dL_says_7 (by decide) rfl (by omega) (by omega) (fun c_7 => ?_) (fun c_7 => ?_)
  · omega
  · refine ce_iconst (v := nI (1)) dL_says_10 (by decide) ?_
    refine ce_goto (tgt := 15) dL_says_11 (by decide) ?_
    exact ce_iret dL_says_15 rfl rfl (by show _ ≤ 1; omega) (by show _ ≤ 6 * 1; omega) ⟨rfl, hcg1⟩
set_option maxHeartbeats 2000000 in
set_option maxRecDepth 20000 in
theorem m_L_two {a vz : Nat} {S : ks_S} {σ0 σ : ce_S} {g0 g : ce_D} (hw : kw a S σ0 g0 σ g) (iv : kl_iv S) (hc : vz < 100) (hl : sl S + 1 < 120) : ce_CT (ce_rl 2 2) mL_two [.ref a, .int (nI (vz))] σ g (kb σ0 g0 a (ks_app (ks_app S (48 + vz / 10)) (48 + vz % 10))) ce_no := by
  refine ce_enter (by decide) rfl (Nat.le_of_ble_eq_true rfl) (L := [some (.ref (a)), some (.int (nI (vz)))]) rfl ?_
  show ce_WP (ce_rl 2 2) mL_two 0 (6 * 0) 0 _ _ _ _ _ _
  refine ce_aload_n dL_two_0 rfl ?_
  refine ce_bipush (v := nI (48)) dL_two_1 (by decide) ?_
  refine ce_iload_n dL_two_3 rfl ?_
  refine ce_bipush (v := nI (10)) dL_two_4 (by decide) ?_
  refine ce_idiv (z := nI ((vz) / (10))) dL_two_6 (nI_ne0 (by omega) (by omega)) (pk_div (by omega) (by omega) (by omega)) ?_
  refine ce_iadd (z := nI (48 + ((vz) / (10)))) dL_two_7 (nI_add _ _) ?_
  refine kc_Sb dL_two_8 hL_says kRL_209 (m_L_says (cz := 48 + ((vz) / (10))) hw iv (by omega) (by show sl S < 120; omega)) rfl rfl (by decide) (Nat.le_of_ble_eq_true rfl) rfl (by decide) (fun cs1 cg1 hcg1 => ?_)
  have iv1 := iv_app iv (c := 48 + ((vz) / (10))) (by omega)
  refine ce_if_eqN (tgt := 32) dL_two_11 (by decide) rfl (by omega) (fun c_11 => ?_) (fun c_11 => ?_)
  · omega
  · refine ce_aload_n dL_two_14 rfl ?_
    refine ce_bipush (v := nI (48)) dL_two_15 (by decide) ?_
    refine ce_iload_n dL_two_17 rfl ?_
    refine ce_bipush (v := nI (10)) dL_two_18 (by decide) ?_
    refine ce_irem (z := nI ((vz) % (10))) dL_two_20 (nI_ne0 (by omega) (by omega)) (pk_rem (by omega) (by omega) (by omega)) ?_
    refine ce_iadd (z := nI (48 + ((vz) % (10)))) dL_two_21 (nI_add _ _) ?_
    refine kc_Sb dL_two_22 hL_says kRL_209 (m_L_says (cz := 48 + ((vz) % (10))) hcg1 iv1 (by omega) (by show sl S + 1 < 120; omega)) rfl rfl (by decide) (Nat.le_of_ble_eq_true rfl) rfl (by decide) (fun cs2 cg2 hcg2 => ?_)
    have iv2 := iv_app iv1 (c := 48 + ((vz) % (10))) (by omega)
    refine ce_if_eqN (tgt := 32) dL_two_25 (by decide) rfl (by omega) (fun c_25 => ?_) (fun c_25 => ?_)
    · omega
    · refine ce_iconst (v := nI (1)) dL_two_28 (by decide) ?_
      refine ce_goto (tgt := 33) dL_two_29 (by decide) ?_
      exact ce_iret dL_two_33 rfl rfl (by show _ ≤ 2; omega) (by show _ ≤ 6 * 2; omega) ⟨rfl, hcg2⟩
/-- .. behind a text that was told before -/
theorem q_says {a cz n9 : Nat} {S0 : ks_S} {l : List Nat} {σ0 σ : ce_S} {g0 g : ce_D} (hw : kw a (ks_apps S0 l) σ0 g0 σ g) (iv : kl_iv (ks_apps S0 l)) (h0 : sl S0 = 0) (hn : l.length = n9) (hc : cz < 256) (hl : n9 < 120) : ce_CT (ce_rl 1 1) mL_says [.ref a, .int (nI (cz))] σ g (kb σ0 g0 a (ks_apps S0 (l ++ [cz]))) ce_no := by
  have h := m_L_says (cz := cz) hw iv hc (by rw [ap_sl, h0]; omega)
  rw [ks_apps_1] at h
  exact h
theorem q_two {a vz n9 : Nat} {S0 : ks_S} {l : List Nat} {σ0 σ : ce_S} {g0 g : ce_D} (hw : kw a (ks_apps S0 l) σ0 g0 σ g) (iv : kl_iv (ks_apps S0 l)) (h0 : sl S0 = 0) (hn : l.length = n9) (hc : vz < 100) (hl : n9 + 1 < 120) : ce_CT (ce_rl 2 2) mL_two [.ref a, .int (nI (vz))] σ g (kb σ0 g0 a (ks_apps S0 (l ++ [48 + vz / 10, 48 + vz % 10]))) ce_no := by
  have h := m_L_two (vz := vz) hw iv hc (by rw [ap_sl, h0]; omega)
  rw [ks_apps_1, ks_apps_1, List.append_assoc] at h
  exact h
theorem iv_says {S0 : ks_S} {l : List Nat} {cz : Nat} (iv : kl_iv (ks_apps S0 l)) (hc : cz < 256) : kl_iv (ks_apps S0 (l ++ [cz])) := by
  rw [← ks_apps_1]
  exact iv_app iv hc
theorem iv_two {S0 : ks_S} {l : List Nat} {vz : Nat} (iv : kl_iv (ks_apps S0 l)) (hc : vz < 100) : kl_iv (ks_apps S0 (l ++ [48 + vz / 10, 48 + vz % 10])) := by
  rw [ks_apps_app]
  exact iv_app (iv_app iv (by omega)) (by omega)
theorem ln_1 {l : List Nat} {c n : Nat} (h : l.length = n) : (l ++ [c]).length = n + 1 := by
  rw [List.length_append, h]
  rfl
theorem ln_2 {l : List Nat} {c d n : Nat} (h : l.length = n) : (l ++ [c, d]).length = n + 2 := by
  rw [List.length_append, h]
  rfl
set_option maxHeartbeats 2000000 in
set_option maxRecDepth 20000 in
theorem te_m {a xz yz mz wz bz : Nat} {S0 : ks_S} {σ0 : ce_S} {g0 : ce_D} (hx : xz < 2147483648) (hy : yz < 2147483648) (hm6 : 1 ≤ mz ∧ mz ≤ 6) (hw6 : 1 ≤ wz ∧ wz ≤ 4) (hb9 : bz ≤ 8) (h0 : sl S0 = 0) {Q : Option Value → ce_S → ce_D → Prop} {X : String → ce_S → ce_D → Prop} {l0 : List Nat} (kk : ∀ (kz : Nat) (σ : ce_S) (g : ce_D) (l : List Nat), kw a (ks_apps S0 l) σ0 g0 σ g → kl_iv (ks_apps S0 l) → l = l0 ++ fl (tx_m xz) 0 mz → l.length = 1 + 4 * mz → kz ≤ 1 + 4 * mz → ce_WP (ce_rl 3 100) mL_tells (kz) (6 * (kz)) 112 [some (.ref (a)), some (.int (nI (xz))), some (.int (nI (yz))), some (.int (nI (mz))), some (.int (nI (wz))), some (.int (nI (bz))), some (.int (nI (1))), none] [] σ g Q X) : ∀ (n9 iz kz : Nat) (σ : ce_S) (g : ce_D) (l : List Nat), kw a (ks_apps S0 l) σ0 g0 σ g → kl_iv (ks_apps S0 l) → mz - iz < n9 → iz ≤ mz → l = l0 ++ fl (tx_m xz) 0 iz → l.length = 1 + 4 * iz → kz ≤ 1 + 4 * iz → ce_WP (ce_rl 3 100) mL_tells (kz) (6 * (kz)) 52 [some (.ref (a)), some (.int (nI (xz))), some (.int (nI (yz))), some (.int (nI (mz))), some (.int (nI (wz))), some (.int (nI (bz))), some (.int (nI (1))), some (.int (nI (iz)))] [] σ g Q X := by
  intro n9
  induction n9 with
  | zero =>
    intros
    omega
  | succ n9 ih =>
    intro iz kz σ g l hw iv hm hi el hn hkz
    refine ce_iload dL_tells_52 rfl ?_
    refine ce_iload_n dL_tells_54 rfl ?_
    refine ce_icmp_geN (tgt := 112) dL_tells_55 (by decide) rfl rfl (by omega) (by omega) (fun c_55 => ?_) (fun c_55 => ?_)
    · have e9 : mz = iz := by omega
      subst e9
      refine ce_drop (L' := [some (.ref (a)), some (.int (nI (xz))), some (.int (nI (yz))), some (.int (nI (mz))), some (.int (nI (wz))), some (.int (nI (bz))), some (.int (nI (1))), none]) (ce_le_s rfl (ce_le_s rfl (ce_le_s rfl (ce_le_s rfl (ce_le_s rfl (ce_le_s rfl (ce_le_s rfl (ce_le_n ce_le_e)))))))) ?_
      exact kk _ _ _ _ hw iv el hn (by omega)
    · refine ce_iload dL_tells_58 rfl ?_
      refine ce_if_eqN (tgt := 112) dL_tells_60 (by decide) rfl (by omega) (fun c_60 => ?_) (fun c_60 => ?_)
      · omega
      · refine ce_aload_n dL_tells_63 rfl ?_
        refine ce_bipush (v := nI (109)) dL_tells_64 (by decide) ?_
        refine kc_Sb dL_tells_66 hL_says kRL_209 (q_says (cz := 109) hw iv h0 hn (by omega) (by omega)) rfl rfl (by decide) (Nat.le_of_ble_eq_true rfl) rfl (by show _ ≤ 100; omega) (fun cs1 cg1 hcg1 => ?_)
        have iv3 := iv_says iv (cz := 109) (by omega)
        have hn4 := ln_1 (c := 109) hn
        refine ce_if_eqN (tgt := 103) dL_tells_69 (by decide) rfl (by omega) (fun c_69 => ?_) (fun c_69 => ?_)
        · omega
        · refine ce_aload_n dL_tells_72 rfl ?_
          refine ce_bipush (v := nI (48)) dL_tells_73 (by decide) ?_
          refine kc_Sb dL_tells_75 hL_says kRL_209 (q_says (cz := 48) hcg1 iv3 h0 hn4 (by omega) (by omega)) rfl rfl (by decide) (Nat.le_of_ble_eq_true rfl) rfl (by show _ ≤ 100; omega) (fun cs2 cg2 hcg2 => ?_)
          have iv5 := iv_says iv3 (cz := 48) (by omega)
          have hn6 := ln_1 (c := 48) hn4
          refine ce_if_eqN (tgt := 103) dL_tells_78 (by decide) rfl (by omega) (fun c_78 => ?_) (fun c_78 => ?_)
          · omega
          · refine ce_aload_n dL_tells_81 rfl ?_
            refine ce_iload_n dL_tells_82 rfl ?_
            refine ce_iload dL_tells_83 rfl ?_
            refine ce_ishr (z := nI (xz / 2 ^ (iz))) dL_tells_85 (kp_shr (by omega) (by omega)) ?_
            refine ce_sipush (v := nI (255)) dL_tells_86 (by decide) ?_
            refine ce_iand (z := nI (xz / 2 ^ (iz) % 256)) dL_tells_89 (tx_255 _) ?_
            refine ce_bipush (v := nI (60)) dL_tells_90 (by decide) ?_
            refine ce_irem (z := nI ((xz / 2 ^ (iz) % 256) % (60))) dL_tells_92 (nI_ne0 (by omega) (by omega)) (pk_rem (by omega) (by omega) (by omega)) ?_
            refine kc_Sb dL_tells_93 hL_two kRL_216 (q_two (vz := (xz / 2 ^ (iz) % 256) % (60)) hcg2 iv5 h0 hn6 (by omega) (by omega)) rfl rfl (by decide) (Nat.le_of_ble_eq_true rfl) rfl (by show _ ≤ 100; omega) (fun cs3 cg3 hcg3 => ?_)
            have iv7 := iv_two iv5 (vz := (xz / 2 ^ (iz) % 256) % (60)) (by omega)
            have hn8 := ln_2 (c := 48 + ((xz / 2 ^ (iz) % 256) % (60)) / 10) (d := 48 + ((xz / 2 ^ (iz) % 256) % (60)) % 10) hn6
            refine ce_if_eqN (tgt := 103) dL_tells_96 (by decide) rfl (by omega) (fun c_96 => ?_) (fun c_96 => ?_)
            · omega
            · refine ce_iconst (v := nI (1)) dL_tells_99 (by decide) ?_
              refine ce_goto (tgt := 104) dL_tells_100 (by decide) ?_
              refine ce_istore dL_tells_104 (Nat.le_of_ble_eq_true rfl) rfl ?_
              refine ce_iinc (v := nI (iz + 1)) dL_tells_106 rfl (ce_inc1 _) (Nat.le_of_ble_eq_true rfl) rfl ?_
              refine ce_goto (tgt := 52) dL_tells_109 (by decide) ?_
              exact ih (iz + 1) _ _ _ _ hcg3 iv7 (by omega) (by omega) (by rw [el, fl_snoc, Nat.zero_add]; unfold tx_m; simp only [List.append_assoc, List.cons_append, List.nil_append]) (hn8.trans (by omega)) (by omega)
set_option maxHeartbeats 2000000 in
set_option maxRecDepth 20000 in
theorem te_w {a xz yz mz wz bz : Nat} {S0 : ks_S} {σ0 : ce_S} {g0 : ce_D} (hx : xz < 2147483648) (hy : yz < 2147483648) (hm6 : 1 ≤ mz ∧ mz ≤ 6) (hw6 : 1 ≤ wz ∧ wz ≤ 4) (hb9 : bz ≤ 8) (h0 : sl S0 = 0) {Q : Option Value → ce_S → ce_D → Prop} {X : String → ce_S → ce_D → Prop} {l0 : List Nat} (kk : ∀ (kz : Nat) (σ : ce_S) (g : ce_D) (l : List Nat), kw a (ks_apps S0 l) σ0 g0 σ g → kl_iv (ks_apps S0 l) → l = l0 ++ fl (tx_w xz) 0 wz → l.length = (1 + 4 * mz) + 5 * wz → kz ≤ (1 + 4 * mz) + 5 * wz → ce_WP (ce_rl 3 100) mL_tells (kz) (6 * (kz)) 187 [some (.ref (a)), some (.int (nI (xz))), some (.int (nI (yz))), some (.int (nI (mz))), some (.int (nI (wz))), some (.int (nI (bz))), some (.int (nI (1))), none] [] σ g Q X) : ∀ (n9 iz kz : Nat) (σ : ce_S) (g : ce_D) (l : List Nat), kw a (ks_apps S0 l) σ0 g0 σ g → kl_iv (ks_apps S0 l) → wz - iz < n9 → iz ≤ wz → l = l0 ++ fl (tx_w xz) 0 iz → l.length = (1 + 4 * mz) + 5 * iz → kz ≤ (1 + 4 * mz) + 5 * iz → ce_WP (ce_rl 3 100) mL_tells (kz) (6 * (kz)) 115 [some (.ref (a)), some (.int (nI (xz))), some (.int (nI (yz))), some (.int (nI (mz))), some (.int (nI (wz))), some (.int (nI (bz))), some (.int (nI (1))), some (.int (nI (iz)))] [] σ g Q X := by
  intro n9
  induction n9 with
  | zero =>
    intros
    omega
  | succ n9 ih =>
    intro iz kz σ g l hw iv hm hi el hn hkz
    refine ce_iload dL_tells_115 rfl ?_
    refine ce_iload dL_tells_117 rfl ?_
    refine ce_icmp_geN (tgt := 187) dL_tells_119 (by decide) rfl rfl (by omega) (by omega) (fun c_119 => ?_) (fun c_119 => ?_)
    · have e9 : wz = iz := by omega
      subst e9
      refine ce_drop (L' := [some (.ref (a)), some (.int (nI (xz))), some (.int (nI (yz))), some (.int (nI (mz))), some (.int (nI (wz))), some (.int (nI (bz))), some (.int (nI (1))), none]) (ce_le_s rfl (ce_le_s rfl (ce_le_s rfl (ce_le_s rfl (ce_le_s rfl (ce_le_s rfl (ce_le_s rfl (ce_le_n ce_le_e)))))))) ?_
      exact kk _ _ _ _ hw iv el hn (by omega)
    · refine ce_iload dL_tells_122 rfl ?_
      refine ce_if_eqN (tgt := 187) dL_tells_124 (by decide) rfl (by omega) (fun c_124 => ?_) (fun c_124 => ?_)
      · omega
      · refine ce_aload_n dL_tells_127 rfl ?_
        refine ce_bipush (v := nI (119)) dL_tells_128 (by decide) ?_
        refine kc_Sb dL_tells_130 hL_says kRL_209 (q_says (cz := 119) hw iv h0 hn (by omega) (by omega)) rfl rfl (by decide) (Nat.le_of_ble_eq_true rfl) rfl (by show _ ≤ 100; omega) (fun cs1 cg1 hcg1 => ?_)
        have iv9 := iv_says iv (cz := 119) (by omega)
        have hn10 := ln_1 (c := 119) hn
        refine ce_if_eqN (tgt := 178) dL_tells_133 (by decide) rfl (by omega) (fun c_133 => ?_) (fun c_133 => ?_)
        · omega
        · refine ce_aload_n dL_tells_136 rfl ?_
          refine ce_iconst (v := nI (1)) dL_tells_137 (by decide) ?_
          refine ce_iload_n dL_tells_138 rfl ?_
          refine ce_iconst (v := nI (2)) dL_tells_139 (by decide) ?_
          refine ce_iload dL_tells_140 rfl ?_
          refine ce_imul (z := nI (2 * iz)) dL_tells_142 (pk_mul _ _) ?_
          refine ce_ishr (z := nI (xz / 2 ^ (2 * iz))) dL_tells_143 (kp_shr (by omega) (by omega)) ?_
          refine ce_bipush (v := nI (63)) dL_tells_144 (by decide) ?_
          refine ce_iand (z := nI (xz / 2 ^ (2 * iz) % 64)) dL_tells_146 (tx_63 _) ?_
          refine ce_iadd (z := nI (1 + (xz / 2 ^ (2 * iz) % 64))) dL_tells_147 (nI_add _ _) ?_
          refine kc_Sb dL_tells_148 hL_two kRL_216 (q_two (vz := 1 + (xz / 2 ^ (2 * iz) % 64)) hcg1 iv9 h0 hn10 (by omega) (by omega)) rfl rfl (by decide) (Nat.le_of_ble_eq_true rfl) rfl (by show _ ≤ 100; omega) (fun cs2 cg2 hcg2 => ?_)
          have iv11 := iv_two iv9 (vz := 1 + (xz / 2 ^ (2 * iz) % 64)) (by omega)
          have hn12 := ln_2 (c := 48 + (1 + (xz / 2 ^ (2 * iz) % 64)) / 10) (d := 48 + (1 + (xz / 2 ^ (2 * iz) % 64)) % 10) hn10
          refine ce_if_eqN (tgt := 178) dL_tells_151 (by decide) rfl (by omega) (fun c_151 => ?_) (fun c_151 => ?_)
          · omega
          · refine ce_aload_n dL_tells_154 rfl ?_
            refine ce_iload_n dL_tells_155 rfl ?_
            refine ce_iconst (v := nI (3)) dL_tells_156 (by decide) ?_
            refine ce_iload dL_tells_157 rfl ?_
            refine ce_imul (z := nI (3 * iz)) dL_tells_159 (pk_mul _ _) ?_
            refine ce_ishr (z := nI (xz / 2 ^ (3 * iz))) dL_tells_160 (kp_shr (by omega) (by omega)) ?_
            refine ce_sipush (v := nI (255)) dL_tells_161 (by decide) ?_
            refine ce_iand (z := nI (xz / 2 ^ (3 * iz) % 256)) dL_tells_164 (tx_255 _) ?_
            refine ce_bipush (v := nI (30)) dL_tells_165 (by decide) ?_
            refine ce_irem (z := nI ((xz / 2 ^ (3 * iz) % 256) % (30))) dL_tells_167 (nI_ne0 (by omega) (by omega)) (pk_rem (by omega) (by omega) (by omega)) ?_
            refine kc_Sb dL_tells_168 hL_two kRL_216 (q_two (vz := (xz / 2 ^ (3 * iz) % 256) % (30)) hcg2 iv11 h0 hn12 (by omega) (by omega)) rfl rfl (by decide) (Nat.le_of_ble_eq_true rfl) rfl (by show _ ≤ 100; omega) (fun cs3 cg3 hcg3 => ?_)
            have iv13 := iv_two iv11 (vz := (xz / 2 ^ (3 * iz) % 256) % (30)) (by omega)
            have hn14 := ln_2 (c := 48 + ((xz / 2 ^ (3 * iz) % 256) % (30)) / 10) (d := 48 + ((xz / 2 ^ (3 * iz) % 256) % (30)) % 10) hn12
            refine ce_if_eqN (tgt := 178) dL_tells_171 (by decide) rfl (by omega) (fun c_171 => ?_) (fun c_171 => ?_)
            · omega
            · refine ce_iconst (v := nI (1)) dL_tells_174 (by decide) ?_
              refine ce_goto (tgt := 179) dL_tells_175 (by decide) ?_
              refine ce_istore dL_tells_179 (Nat.le_of_ble_eq_true rfl) rfl ?_
              refine ce_iinc (v := nI (iz + 1)) dL_tells_181 rfl (ce_inc1 _) (Nat.le_of_ble_eq_true rfl) rfl ?_
              refine ce_goto (tgt := 115) dL_tells_184 (by decide) ?_
              exact ih (iz + 1) _ _ _ _ hcg3 iv13 (by omega) (by omega) (by rw [el, fl_snoc, Nat.zero_add]; unfold tx_w; simp only [List.append_assoc, List.cons_append, List.nil_append]) (hn14.trans (by omega)) (by omega)
set_option maxHeartbeats 2000000 in
set_option maxRecDepth 20000 in
theorem te_b {a xz yz mz wz bz : Nat} {S0 : ks_S} {σ0 : ce_S} {g0 : ce_D} (hx : xz < 2147483648) (hy : yz < 2147483648) (hm6 : 1 ≤ mz ∧ mz ≤ 6) (hw6 : 1 ≤ wz ∧ wz ≤ 4) (hb9 : bz ≤ 8) (h0 : sl S0 = 0) {Q : Option Value → ce_S → ce_D → Prop} {X : String → ce_S → ce_D → Prop} {l0 : List Nat} (kk : ∀ (kz : Nat) (σ : ce_S) (g : ce_D) (l : List Nat), kw a (ks_apps S0 l) σ0 g0 σ g → kl_iv (ks_apps S0 l) → l = l0 ++ fl (tx_b xz) 0 bz → l.length = (1 + 4 * mz + 5 * wz) + 3 * bz → kz ≤ (1 + 4 * mz + 5 * wz) + 3 * bz → ce_WP (ce_rl 3 100) mL_tells (kz) (6 * (kz)) 244 [some (.ref (a)), some (.int (nI (xz))), some (.int (nI (yz))), some (.int (nI (mz))), some (.int (nI (wz))), some (.int (nI (bz))), some (.int (nI (1))), none] [] σ g Q X) : ∀ (n9 iz kz : Nat) (σ : ce_S) (g : ce_D) (l : List Nat), kw a (ks_apps S0 l) σ0 g0 σ g → kl_iv (ks_apps S0 l) → bz - iz < n9 → iz ≤ bz → l = l0 ++ fl (tx_b xz) 0 iz → l.length = (1 + 4 * mz + 5 * wz) + 3 * iz → kz ≤ (1 + 4 * mz + 5 * wz) + 3 * iz → ce_WP (ce_rl 3 100) mL_tells (kz) (6 * (kz)) 190 [some (.ref (a)), some (.int (nI (xz))), some (.int (nI (yz))), some (.int (nI (mz))), some (.int (nI (wz))), some (.int (nI (bz))), some (.int (nI (1))), some (.int (nI (iz)))] [] σ g Q X := by
  intro n9
  induction n9 with
  | zero =>
    intros
    omega
  | succ n9 ih =>
    intro iz kz σ g l hw iv hm hi el hn hkz
    refine ce_iload dL_tells_190 rfl ?_
    refine ce_iload dL_tells_192 rfl ?_
    refine ce_icmp_geN (tgt := 244) dL_tells_194 (by decide) rfl rfl (by omega) (by omega) (fun c_194 => ?_) (fun c_194 => ?_)
    · have e9 : bz = iz := by omega
      subst e9
      refine ce_drop (L' := [some (.ref (a)), some (.int (nI (xz))), some (.int (nI (yz))), some (.int (nI (mz))), some (.int (nI (wz))), some (.int (nI (bz))), some (.int (nI (1))), none]) (ce_le_s rfl (ce_le_s rfl (ce_le_s rfl (ce_le_s rfl (ce_le_s rfl (ce_le_s rfl (ce_le_s rfl (ce_le_n ce_le_e)))))))) ?_
      exact kk _ _ _ _ hw iv el hn (by omega)
    · refine ce_iload dL_tells_197 rfl ?_
      refine ce_if_eqN (tgt := 244) dL_tells_199 (by decide) rfl (by omega) (fun c_199 => ?_) (fun c_199 => ?_)
      · omega
      · refine ce_aload_n dL_tells_202 rfl ?_
        refine ce_bipush (v := nI (98)) dL_tells_203 (by decide) ?_
        refine kc_Sb dL_tells_205 hL_says kRL_209 (q_says (cz := 98) hw iv h0 hn (by omega) (by omega)) rfl rfl (by decide) (Nat.le_of_ble_eq_true rfl) rfl (by show _ ≤ 100; omega) (fun cs1 cg1 hcg1 => ?_)
        have iv15 := iv_says iv (cz := 98) (by omega)
        have hn16 := ln_1 (c := 98) hn
        refine ce_if_eqN (tgt := 235) dL_tells_208 (by decide) rfl (by omega) (fun c_208 => ?_) (fun c_208 => ?_)
        · omega
        · refine ce_aload_n dL_tells_211 rfl ?_
          refine ce_iconst (v := nI (1)) dL_tells_212 (by decide) ?_
          refine ce_iload_n dL_tells_213 rfl ?_
          refine ce_iload dL_tells_214 rfl ?_
          refine ce_ishr (z := nI (xz / 2 ^ (iz))) dL_tells_216 (kp_shr (by omega) (by omega)) ?_
          refine ce_sipush (v := nI (255)) dL_tells_217 (by decide) ?_
          refine ce_iand (z := nI (xz / 2 ^ (iz) % 256)) dL_tells_220 (tx_255 _) ?_
          refine ce_bipush (v := nI (24)) dL_tells_221 (by decide) ?_
          refine ce_irem (z := nI ((xz / 2 ^ (iz) % 256) % (24))) dL_tells_223 (nI_ne0 (by omega) (by omega)) (pk_rem (by omega) (by omega) (by omega)) ?_
          refine ce_iadd (z := nI (1 + ((xz / 2 ^ (iz) % 256) % (24)))) dL_tells_224 (nI_add _ _) ?_
          refine kc_Sb dL_tells_225 hL_two kRL_216 (q_two (vz := 1 + ((xz / 2 ^ (iz) % 256) % (24))) hcg1 iv15 h0 hn16 (by omega) (by omega)) rfl rfl (by decide) (Nat.le_of_ble_eq_true rfl) rfl (by show _ ≤ 100; omega) (fun cs2 cg2 hcg2 => ?_)
          have iv17 := iv_two iv15 (vz := 1 + ((xz / 2 ^ (iz) % 256) % (24))) (by omega)
          have hn18 := ln_2 (c := 48 + (1 + ((xz / 2 ^ (iz) % 256) % (24))) / 10) (d := 48 + (1 + ((xz / 2 ^ (iz) % 256) % (24))) % 10) hn16
          refine ce_if_eqN (tgt := 235) dL_tells_228 (by decide) rfl (by omega) (fun c_228 => ?_) (fun c_228 => ?_)
          · omega
          · refine ce_iconst (v := nI (1)) dL_tells_231 (by decide) ?_
            refine ce_goto (tgt := 236) dL_tells_232 (by decide) ?_
            refine ce_istore dL_tells_236 (Nat.le_of_ble_eq_true rfl) rfl ?_
            refine ce_iinc (v := nI (iz + 1)) dL_tells_238 rfl (ce_inc1 _) (Nat.le_of_ble_eq_true rfl) rfl ?_
            refine ce_goto (tgt := 190) dL_tells_241 (by decide) ?_
            exact ih (iz + 1) _ _ _ _ hcg2 iv17 (by omega) (by omega) (by rw [el, fl_snoc, Nat.zero_add]; unfold tx_b; simp only [List.append_assoc, List.cons_append, List.nil_append]) (hn18.trans (by omega)) (by omega)
set_option maxHeartbeats 2000000 in
set_option maxRecDepth 20000 in
theorem te_o {a xz yz mz wz bz : Nat} {S0 : ks_S} {σ0 : ce_S} {g0 : ce_D} (hx : xz < 2147483648) (hy : yz < 2147483648) (hm6 : 1 ≤ mz ∧ mz ≤ 6) (hw6 : 1 ≤ wz ∧ wz ≤ 4) (hb9 : bz ≤ 8) (h0 : sl S0 = 0) {Q : Option Value → ce_S → ce_D → Prop} {X : String → ce_S → ce_D → Prop} {l0 : List Nat} (kk : ∀ (kz : Nat) (σ : ce_S) (g : ce_D) (l : List Nat), kw a (ks_apps S0 l) σ0 g0 σ g → kl_iv (ks_apps S0 l) → l = l0 ++ fl (tx_o xz yz mz wz) 0 6 → l.length = (1 + 4 * mz + 5 * wz + 3 * bz) + 5 * 6 → kz ≤ (1 + 4 * mz + 5 * wz + 3 * bz) + 5 * 6 → ce_WP (ce_rl 3 100) mL_tells (kz) (6 * (kz)) 342 [some (.ref (a)), some (.int (nI (xz))), some (.int (nI (yz))), some (.int (nI (mz))), some (.int (nI (wz))), some (.int (nI (bz))), some (.int (nI (1))), none] [] σ g Q X) : ∀ (n9 iz kz : Nat) (σ : ce_S) (g : ce_D) (l : List Nat), kw a (ks_apps S0 l) σ0 g0 σ g → kl_iv (ks_apps S0 l) → 6 - iz < n9 → iz ≤ 6 → l = l0 ++ fl (tx_o xz yz mz wz) 0 iz → l.length = (1 + 4 * mz + 5 * wz + 3 * bz) + 5 * iz → kz ≤ (1 + 4 * mz + 5 * wz + 3 * bz) + 5 * iz → ce_WP (ce_rl 3 100) mL_tells (kz) (6 * (kz)) 247 [some (.ref (a)), some (.int (nI (xz))), some (.int (nI (yz))), some (.int (nI (mz))), some (.int (nI (wz))), some (.int (nI (bz))), some (.int (nI (1))), some (.int (nI (iz)))] [] σ g Q X := by
  intro n9
  induction n9 with
  | zero =>
    intros
    omega
  | succ n9 ih =>
    intro iz kz σ g l hw iv hm hi el hn hkz
    refine ce_iload dL_tells_247 rfl ?_
    refine ce_bipush (v := nI (6)) dL_tells_249 (by decide) ?_
    refine ce_icmp_geN (tgt := 342) dL_tells_251 (by decide) rfl rfl (by omega) (by omega) (fun c_251 => ?_) (fun c_251 => ?_)
    · have e9 : 6 = iz := by omega
      subst e9
      refine ce_drop (L' := [some (.ref (a)), some (.int (nI (xz))), some (.int (nI (yz))), some (.int (nI (mz))), some (.int (nI (wz))), some (.int (nI (bz))), some (.int (nI (1))), none]) (ce_le_s rfl (ce_le_s rfl (ce_le_s rfl (ce_le_s rfl (ce_le_s rfl (ce_le_s rfl (ce_le_s rfl (ce_le_n ce_le_e)))))))) ?_
      exact kk _ _ _ _ hw iv el hn (by omega)
    · refine ce_iload dL_tells_254 rfl ?_
      refine ce_if_eqN (tgt := 342) dL_tells_256 (by decide) rfl (by omega) (fun c_256 => ?_) (fun c_256 => ?_)
      · omega
      · have gm : xz / 2 ^ iz % 256 % mz < mz := Nat.mod_lt _ (by omega)
        have gw : yz / 2 ^ iz % 256 % wz < wz := Nat.mod_lt _ (by omega)
        refine ce_aload_n dL_tells_259 rfl ?_
        refine ce_bipush (v := nI (111)) dL_tells_260 (by decide) ?_
        refine kc_Sb dL_tells_262 hL_says kRL_209 (q_says (cz := 111) hw iv h0 hn (by omega) (by omega)) rfl rfl (by decide) (Nat.le_of_ble_eq_true rfl) rfl (by show _ ≤ 100; omega) (fun cs1 cg1 hcg1 => ?_)
        have iv19 := iv_says iv (cz := 111) (by omega)
        have hn20 := ln_1 (c := 111) hn
        refine ce_if_eqN (tgt := 333) dL_tells_265 (by decide) rfl (by omega) (fun c_265 => ?_) (fun c_265 => ?_)
        · omega
        · refine ce_aload_n dL_tells_268 rfl ?_
          refine ce_bipush (v := nI (48)) dL_tells_269 (by decide) ?_
          refine ce_iload_n dL_tells_271 rfl ?_
          refine ce_iload dL_tells_272 rfl ?_
          refine ce_ishr (z := nI (xz / 2 ^ (iz))) dL_tells_274 (kp_shr (by omega) (by omega)) ?_
          refine ce_sipush (v := nI (255)) dL_tells_275 (by decide) ?_
          refine ce_iand (z := nI (xz / 2 ^ (iz) % 256)) dL_tells_278 (tx_255 _) ?_
          refine ce_iload_n dL_tells_279 rfl ?_
          refine ce_irem (z := nI ((xz / 2 ^ (iz) % 256) % (mz))) dL_tells_280 (nI_ne0 (by omega) (by omega)) (pk_rem (by omega) (by omega) (by omega)) ?_
          refine ce_iadd (z := nI (48 + ((xz / 2 ^ (iz) % 256) % (mz)))) dL_tells_281 (nI_add _ _) ?_
          refine kc_Sb dL_tells_282 hL_says kRL_209 (q_says (cz := 48 + ((xz / 2 ^ (iz) % 256) % (mz))) hcg1 iv19 h0 hn20 (by omega) (by omega)) rfl rfl (by decide) (Nat.le_of_ble_eq_true rfl) rfl (by show _ ≤ 100; omega) (fun cs2 cg2 hcg2 => ?_)
          have iv21 := iv_says iv19 (cz := 48 + ((xz / 2 ^ (iz) % 256) % (mz))) (by omega)
          have hn22 := ln_1 (c := 48 + ((xz / 2 ^ (iz) % 256) % (mz))) hn20
          refine ce_if_eqN (tgt := 333) dL_tells_285 (by decide) rfl (by omega) (fun c_285 => ?_) (fun c_285 => ?_)
          · omega
          · refine ce_aload_n dL_tells_288 rfl ?_
            refine ce_bipush (v := nI (48)) dL_tells_289 (by decide) ?_
            refine ce_iload_n dL_tells_291 rfl ?_
            refine ce_iload dL_tells_292 rfl ?_
            refine ce_ishr (z := nI (yz / 2 ^ (iz))) dL_tells_294 (kp_shr (by omega) (by omega)) ?_
            refine ce_sipush (v := nI (255)) dL_tells_295 (by decide) ?_
            refine ce_iand (z := nI (yz / 2 ^ (iz) % 256)) dL_tells_298 (tx_255 _) ?_
            refine ce_iload dL_tells_299 rfl ?_
            refine ce_irem (z := nI ((yz / 2 ^ (iz) % 256) % (wz))) dL_tells_301 (nI_ne0 (by omega) (by omega)) (pk_rem (by omega) (by omega) (by omega)) ?_
            refine ce_iadd (z := nI (48 + ((yz / 2 ^ (iz) % 256) % (wz)))) dL_tells_302 (nI_add _ _) ?_
            refine kc_Sb dL_tells_303 hL_says kRL_209 (q_says (cz := 48 + ((yz / 2 ^ (iz) % 256) % (wz))) hcg2 iv21 h0 hn22 (by omega) (by omega)) rfl rfl (by decide) (Nat.le_of_ble_eq_true rfl) rfl (by show _ ≤ 100; omega) (fun cs3 cg3 hcg3 => ?_)
            have iv23 := iv_says iv21 (cz := 48 + ((yz / 2 ^ (iz) % 256) % (wz))) (by omega)
            have hn24 := ln_1 (c := 48 + ((yz / 2 ^ (iz) % 256) % (wz))) hn22
            refine ce_if_eqN (tgt := 333) dL_tells_306 (by decide) rfl (by omega) (fun c_306 => ?_) (fun c_306 => ?_)
            · omega
            · refine ce_aload_n dL_tells_309 rfl ?_
              refine ce_iload_n dL_tells_310 rfl ?_
              refine ce_iload dL_tells_311 rfl ?_
              refine ce_iconst (v := nI (3)) dL_tells_313 (by decide) ?_
              refine ce_iadd (z := nI (iz + 3)) dL_tells_314 (nI_add _ _) ?_
              refine ce_ishr (z := nI (xz / 2 ^ (iz + 3))) dL_tells_315 (kp_shr (by omega) (by omega)) ?_
              refine ce_sipush (v := nI (255)) dL_tells_316 (by decide) ?_
              refine ce_iand (z := nI (xz / 2 ^ (iz + 3) % 256)) dL_tells_319 (tx_255 _) ?_
              refine ce_bipush (v := nI (21)) dL_tells_320 (by decide) ?_
              refine ce_irem (z := nI ((xz / 2 ^ (iz + 3) % 256) % (21))) dL_tells_322 (nI_ne0 (by omega) (by omega)) (pk_rem (by omega) (by omega) (by omega)) ?_
              refine kc_Sb dL_tells_323 hL_two kRL_216 (q_two (vz := (xz / 2 ^ (iz + 3) % 256) % (21)) hcg3 iv23 h0 hn24 (by omega) (by omega)) rfl rfl (by decide) (Nat.le_of_ble_eq_true rfl) rfl (by show _ ≤ 100; omega) (fun cs4 cg4 hcg4 => ?_)
              have iv25 := iv_two iv23 (vz := (xz / 2 ^ (iz + 3) % 256) % (21)) (by omega)
              have hn26 := ln_2 (c := 48 + ((xz / 2 ^ (iz + 3) % 256) % (21)) / 10) (d := 48 + ((xz / 2 ^ (iz + 3) % 256) % (21)) % 10) hn24
              refine ce_if_eqN (tgt := 333) dL_tells_326 (by decide) rfl (by omega) (fun c_326 => ?_) (fun c_326 => ?_)
              · omega
              · refine ce_iconst (v := nI (1)) dL_tells_329 (by decide) ?_
                refine ce_goto (tgt := 334) dL_tells_330 (by decide) ?_
                refine ce_istore dL_tells_334 (Nat.le_of_ble_eq_true rfl) rfl ?_
                refine ce_iinc (v := nI (iz + 1)) dL_tells_336 rfl (ce_inc1 _) (Nat.le_of_ble_eq_true rfl) rfl ?_
                refine ce_goto (tgt := 247) dL_tells_339 (by decide) ?_
                exact ih (iz + 1) _ _ _ _ hcg4 iv25 (by omega) (by omega) (by rw [el, fl_snoc, Nat.zero_add]; unfold tx_o; simp only [List.append_assoc, List.cons_append, List.nil_append]) (hn26.trans (by omega)) (by omega)
set_option maxHeartbeats 2000000 in
set_option maxRecDepth 20000 in
theorem m_L_tells {a xz yz : Nat} {S : ks_S} {σ0 σ : ce_S} {g0 g : ce_D} (hx : xz < 2147483648) (hy : yz < 2147483648) (hw : kw a S σ0 g0 σ g) (iv : kl_iv S) (h120 : sl S ≤ 120) : ce_CT (ce_rl 3 100) mL_tells [.ref a, .int (nI (xz)), .int (nI (yz))] σ g (kb σ0 g0 a (ks_apps (ks_wipe S) (tx_all xz yz))) ce_no := by
  refine ce_enter (by decide) rfl (Nat.le_of_ble_eq_true rfl) (L := [some (.ref (a)), some (.int (nI (xz))), some (.int (nI (yz))), none, none, none, none, none]) rfl ?_
  show ce_WP (ce_rl 3 100) mL_tells 0 (6 * 0) 0 _ _ _ _ _ _
  refine ce_iconst (v := nI (1)) dL_tells_0 (by decide) ?_
  refine ce_iload_n dL_tells_1 rfl ?_
  refine ce_bipush (v := nI (6)) dL_tells_2 (by decide) ?_
  refine ce_irem (z := nI ((yz) % (6))) dL_tells_4 (nI_ne0 (by omega) (by omega)) (pk_rem (by omega) (by omega) (by omega)) ?_
  refine ce_iadd (z := nI (1 + ((yz) % (6)))) dL_tells_5 (nI_add _ _) ?_
  refine ce_istore_n dL_tells_6 (Nat.le_of_ble_eq_true rfl) rfl ?_
  refine ce_iconst (v := nI (1)) dL_tells_7 (by decide) ?_
  refine ce_iload_n dL_tells_8 rfl ?_
  refine ce_bipush (v := nI (6)) dL_tells_9 (by decide) ?_
  refine ce_idiv (z := nI ((yz) / (6))) dL_tells_11 (nI_ne0 (by omega) (by omega)) (pk_div (by omega) (by omega) (by omega)) ?_
  refine ce_iconst (v := nI (4)) dL_tells_12 (by decide) ?_
  refine ce_irem (z := nI (((yz) / (6)) % (4))) dL_tells_13 (nI_ne0 (by omega) (by omega)) (pk_rem (by omega) (by omega) (by omega)) ?_
  refine ce_iadd (z := nI (1 + (((yz) / (6)) % (4)))) dL_tells_14 (nI_add _ _) ?_
  refine ce_istore dL_tells_15 (Nat.le_of_ble_eq_true rfl) rfl ?_
  refine ce_iload_n dL_tells_17 rfl ?_
  refine ce_bipush (v := nI (24)) dL_tells_18 (by decide) ?_
  refine ce_idiv (z := nI ((yz) / (24))) dL_tells_20 (nI_ne0 (by omega) (by omega)) (pk_div (by omega) (by omega) (by omega)) ?_
  refine ce_bipush (v := nI (9)) dL_tells_21 (by decide) ?_
  refine ce_irem (z := nI (((yz) / (24)) % (9))) dL_tells_23 (nI_ne0 (by omega) (by omega)) (pk_rem (by omega) (by omega) (by omega)) ?_
  refine ce_istore dL_tells_24 (Nat.le_of_ble_eq_true rfl) rfl ?_
  refine ce_aload_n dL_tells_26 rfl ?_
  refine kc_V dL_tells_27 hX7_clearText kRL_213 hw (fun b hX hr => kl_of_r hX (m_X7_clearText_ok a b S hX hr iv.ok)) rfl rfl rfl rfl (by decide) (Nat.le_of_ble_eq_true rfl) rfl (by show _ ≤ 100; omega) (fun cs1 cg1 hcg1 => ?_)
  have h0 : sl (ks_wipe S) = 0 := rfl
  have ivw : kl_iv (ks_apps (ks_wipe S) []) := iv_wipe iv
  have hn0 : ([] : List Nat).length = 0 := rfl
  have hcg1 : kw a (ks_apps (ks_wipe S) []) σ0 g0 cs1 cg1 := hcg1
  refine ce_if_ltN (tgt := 46) dL_tells_30 (by decide) rfl (by omega) (fun c_30 => ?_) (fun c_30 => ?_)
  · omega
  · refine ce_aload_n dL_tells_33 rfl ?_
    refine ce_bipush (v := nI (67)) dL_tells_34 (by decide) ?_
    refine kc_Sb dL_tells_36 hL_says kRL_209 (q_says (cz := 67) hcg1 ivw h0 hn0 (by omega) (by omega)) rfl rfl (by decide) (Nat.le_of_ble_eq_true rfl) rfl (by show _ ≤ 100; omega) (fun cs2 cg2 hcg2 => ?_)
    have iv27 := iv_says ivw (cz := 67) (by omega)
    have hn28 := ln_1 (c := 67) hn0
    refine ce_if_eqN (tgt := 46) dL_tells_39 (by decide) rfl (by omega) (fun c_39 => ?_) (fun c_39 => ?_)
    · omega
    · refine ce_iconst (v := nI (1)) dL_tells_42 (by decide) ?_
      refine ce_goto (tgt := 47) dL_tells_43 (by decide) ?_
      refine ce_istore dL_tells_47 (Nat.le_of_ble_eq_true rfl) rfl ?_
      refine ce_iconst (v := nI (0)) dL_tells_49 (by decide) ?_
      refine ce_istore dL_tells_50 (Nat.le_of_ble_eq_true rfl) rfl ?_
      refine te_m (mz := 1 + yz % 6) (wz := 1 + yz / 6 % 4) (bz := yz / 24 % 9) hx hy (by omega) (by omega) (by omega) (S0 := ks_wipe S) rfl (l0 := [67]) (fun k1 σ1 g1 l1 hw1 iv1 el1 hn1 hk1 => ?_) ((1 + yz % 6) + 1) 0 _ _ _ _ hcg2 iv27 (by omega) (by omega) rfl hn28 (by omega)
      refine ce_iconst (v := nI (0)) dL_tells_112 (by decide) ?_
      refine ce_istore dL_tells_113 (Nat.le_of_ble_eq_true rfl) rfl ?_
      refine te_w (mz := 1 + yz % 6) (wz := 1 + yz / 6 % 4) (bz := yz / 24 % 9) hx hy (by omega) (by omega) (by omega) (S0 := ks_wipe S) rfl (l0 := l1) (fun k2 σ2 g2 l2 hw2 iv2 el2 hn2 hk2 => ?_) ((1 + yz / 6 % 4) + 1) 0 _ _ _ _ hw1 iv1 (by omega) (by omega) (List.append_nil _).symm (hn1.trans (by omega)) (by omega)
      refine ce_iconst (v := nI (0)) dL_tells_187 (by decide) ?_
      refine ce_istore dL_tells_188 (Nat.le_of_ble_eq_true rfl) rfl ?_
      refine te_b (mz := 1 + yz % 6) (wz := 1 + yz / 6 % 4) (bz := yz / 24 % 9) hx hy (by omega) (by omega) (by omega) (S0 := ks_wipe S) rfl (l0 := l2) (fun k3 σ3 g3 l3 hw3 iv3 el3 hn3 hk3 => ?_) ((yz / 24 % 9) + 1) 0 _ _ _ _ hw2 iv2 (by omega) (by omega) (List.append_nil _).symm (hn2.trans (by omega)) (by omega)
      refine ce_iconst (v := nI (0)) dL_tells_244 (by decide) ?_
      refine ce_istore dL_tells_245 (Nat.le_of_ble_eq_true rfl) rfl ?_
      refine te_o (mz := 1 + yz % 6) (wz := 1 + yz / 6 % 4) (bz := yz / 24 % 9) hx hy (by omega) (by omega) (by omega) (S0 := ks_wipe S) rfl (l0 := l3) (fun k4 σ4 g4 l4 hw4 iv4 el4 hn4 hk4 => ?_) 7 0 _ _ _ _ hw3 iv3 (by omega) (by omega) (List.append_nil _).symm (hn3.trans (by omega)) (by omega)
      have hall : l4 = tx_all xz yz := by rw [el4, el3, el2, el1]; rfl
      subst hall
      have hr9 := tx_read (S := ks_wipe S) (x := xz) (y := yz) rfl
      refine ce_iload dL_tells_342 rfl ?_
      refine ce_if_eqN (tgt := 360) dL_tells_344 (by decide) rfl (by omega) (fun c_344 => ?_) (fun c_344 => ?_)
      · omega
      · refine ce_aload_n dL_tells_347 rfl ?_
        refine kc_V dL_tells_348 hX7_errorPosition kRL_202 hw4 (fun b hX hr => kl_of_r hX (by have h9 := m_X7_errorPosition_ok _ b _ hX hr (iv4).ok; rw [hr9] at h9; exact h9)) rfl rfl rfl rfl (by decide) (Nat.le_of_ble_eq_true rfl) rfl (by show _ ≤ 100; omega) (fun cs3 cg3 hcg3 => ?_)
        refine ce_ldc dL_tells_351 kRL_219 ?_
        refine ce_icmp_neI (p := (-99999)) (q := (-99999)) (tgt := 360) dL_tells_353 (by decide) (by decide) (by decide) (fun c_353 => ?_) (fun c_353 => ?_)
        · omega
        · refine ce_iconst (v := nI (1)) dL_tells_356 (by decide) ?_
          refine ce_goto (tgt := 361) dL_tells_357 (by decide) ?_
          exact ce_iret dL_tells_361 rfl rfl (by show _ ≤ 100; omega) (by show _ ≤ 6 * 100; omega) ⟨rfl, hcg3⟩
