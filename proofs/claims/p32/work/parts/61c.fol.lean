set_option maxHeartbeats 2000000 in
set_option maxRecDepth 20000 in
theorem fo_6 {a : Nat} {Kz : ce_V} {Oz : Nat → Int32} {sz : ((Nat → Bool) × (Nat → ce_V) × (Nat → Nat → Int32)) × (Nat × (Nat → Nat))} {σ0 : ce_S} {g0 : ce_D} {xz : Nat} (hx : xz < 2147483648) {X : String → ce_S → ce_D → Prop} {S9 : ks_S} (e1 : S9.1 = (sz.1.2.1 1, sz.1.2.2 1)) (n1 : sn S9 = 0) (e2 : S9.2.2 = sz) (hF : sz.1.1 1 = true) (hKS : sz.1.2.1 1 = Kz) (hOS : sz.1.2.2 1 = Oz) {kz : Nat} {S : ks_S} {σ : ce_S} {g : ce_D} (hw : kw a S σ0 g0 σ g) (iv : kl_iv S) (h1 : S.1 = (Kz, Oz)) (h2 : S.2.2 = sz) (hkz : kz ≤ 57) : ce_WP (ce_rl 2 60) mL_follows (kz) (6 * (kz)) 886 [some (.ref (a)), some (.int (nI (xz))), some (.long (nw Kz Oz)), none, some (.int (nI (Kz 0 0))), some (.int (nI (Kz 0 1))), some (.long (lN (ce_sum (Kz 9) 36))), none, some (.int (nI (1))), none, none, none, none, none, none, none, none, none, none, none, none, none, none] [] σ g (kb σ0 g0 a S9) X := by
  obtain ⟨hz, rfl⟩ : ∃ hz, S = SS Kz Oz hz sz := ⟨_, SS_of h1 h2⟩
  have hk : kv_cl Kz := iv.ok.1
  have hj : kj Kz Oz := iv.kj.1
  have b9 := hk.b
  have c36 := hk.b9
  refine ce_iload dL_follows_886 rfl ?_
  refine ce_if_eqN (tgt := 926) dL_follows_888 (by decide) rfl (by omega) (fun c_888 => ?_) (fun c_888 => ?_)
  · omega
  · refine ce_aload_n dL_follows_891 rfl ?_
    refine ce_iconst (v := nI (1)) dL_follows_892 (by decide) ?_
    have hqc893 := (by have h9 := q_rest hw iv (s9 := 1) (by decide) hF; rw [show sKS (SS Kz Oz hz sz) 1 = Kz from hKS] at h9; exact h9)
    refine kc_Wk (V := lN (ce_sum (Kz 9) 36)) dL_follows_893 hL_restore kRL_179 hqc893 rfl rfl (by decide) (Nat.le_of_ble_eq_true rfl) rfl (by show _ ≤ 60; omega) (fun cs1 cg1 hcg1 => ?_)
    have ivR := iv_rest iv (s := 1) (by decide) hF
    refine ce_lload dL_follows_896 rfl ?_
    refine ce_lcmp (z := lg_cmp (lN (ce_sum (Kz 9) 36)) (lN (ce_sum (Kz 9) 36))) dL_follows_898 rfl ?_
    refine ce_if_neL (a := ce_sum (Kz 9) 36) (b := ce_sum (Kz 9) 36) (tgt := 926) dL_follows_899 (by decide) rfl (by omega) (by omega) (fun c_899 => ?_) (fun c_899 => ?_)
    · omega
    · refine ce_aload_n dL_follows_902 rfl ?_
      have hqc903 := (by have h9 := m_L_now hcg1 ivR; rw [show sK (ks_rest (SS Kz Oz hz sz) 1) = Kz from hKS, show sO (ks_rest (SS Kz Oz hz sz) 1) = Oz from hOS] at h9; exact h9)
      refine kc_Sj (V := nw Kz Oz) dL_follows_903 hL_now kRL_131 hqc903 rfl rfl (by decide) (Nat.le_of_ble_eq_true rfl) rfl (by show _ ≤ 60; omega) ?_
      refine ce_lload_n dL_follows_906 rfl ?_
      refine ce_lcmp (z := lg_cmp (nw Kz Oz) (nw Kz Oz)) dL_follows_907 rfl ?_
      refine ce_if_neC (tgt := 926) dL_follows_908 (by decide) rfl (fun c_908 => ?_) (fun c_908 => ?_)
      · exact absurd rfl c_908
      · refine ce_aload_n dL_follows_911 rfl ?_
        have hqc912 := (q_undo0 hcg1 ivR rfl)
        refine kc_Wk (V := (-9000000000000000003 : Int64)) dL_follows_912 hL_undo kRL_198 hqc912 rfl rfl (by decide) (Nat.le_of_ble_eq_true rfl) rfl (by show _ ≤ 60; omega) (fun cs2 cg2 hcg2 => ?_)
        refine ce_ldc2 dL_follows_915 kRL_21 ?_
        refine ce_lcmp (z := lg_cmp ((-9000000000000000003 : Int64)) ((-9000000000000000003 : Int64))) dL_follows_918 rfl ?_
        refine ce_if_neC (tgt := 926) dL_follows_919 (by decide) rfl (fun c_919 => ?_) (fun c_919 => ?_)
        · exact absurd rfl c_919
        · refine ce_iconst (v := nI (1)) dL_follows_922 (by decide) ?_
          refine ce_goto (tgt := 927) dL_follows_923 (by decide) ?_
          exact ce_iret dL_follows_927 rfl rfl (by show _ ≤ 60; omega) (by show _ ≤ 6 * 60; omega) ⟨rfl, (hcg2).se e1 rfl n1 e2⟩
set_option maxHeartbeats 2000000 in
set_option maxRecDepth 20000 in
theorem fo_2 {a : Nat} {Kz : ce_V} {Oz : Nat → Int32} {sz : ((Nat → Bool) × (Nat → ce_V) × (Nat → Nat → Int32)) × (Nat × (Nat → Nat))} {σ0 : ce_S} {g0 : ce_D} {xz : Nat} (hx : xz < 2147483648) {Q : Option Value → ce_S → ce_D → Prop} {X : String → ce_S → ce_D → Prop} {iz wz : Nat} (hi : iz < Kz 0 0) (hwz : wz < Kz 0 1) (kk : ∀ (kz : Nat) (S : ks_S) (σ : ce_S) (g : ce_D), kw a S σ0 g0 σ g → kl_iv S → S.1 = (Kz, Oz) → S.2.2 = sz → kz ≤ 57 → ce_WP (ce_rl 2 60) mL_follows (kz) (6 * (kz)) 886 [some (.ref (a)), some (.int (nI (xz))), some (.long (nw Kz Oz)), none, some (.int (nI (Kz 0 0))), some (.int (nI (Kz 0 1))), some (.long (lN (ce_sum (Kz 9) 36))), none, some (.int (nI (1))), none, none, none, none, none, none, none, none, none, none, none, none, none, none] [] σ g Q X) {kz : Nat} {S : ks_S} {σ : ce_S} {g : ce_D} (hw : kw a S σ0 g0 σ g) (iv : kl_iv S) (h1 : S.1 = (Kz, Oz)) (h2 : S.2.2 = sz) (hkz : kz ≤ 20) : ce_WP (ce_rl 2 60) mL_follows (kz) (6 * (kz)) 105 [some (.ref (a)), some (.int (nI (xz))), some (.long (nw Kz Oz)), none, some (.int (nI (Kz 0 0))), some (.int (nI (Kz 0 1))), some (.long (lN (ce_sum (Kz 9) 36))), none, some (.int (nI (1))), some (.int (nI (iz))), some (.int (nI (wz))), none, none, none, none, none, none, none, none, none, none, none, none] [] σ g Q X := by
  obtain ⟨hz, rfl⟩ : ∃ hz, S = SS Kz Oz hz sz := ⟨_, SS_of h1 h2⟩
  have hk : kv_cl Kz := iv.ok.1
  have hj : kj Kz Oz := iv.kj.1
  have b9 := hk.b
  have c36 := hk.b9
  have h5l := hk.st wz
  refine ce_aload_n dL_follows_105 rfl ?_
  refine ce_iload dL_follows_106 rfl ?_
  refine ce_iconst (v := nI (0)) dL_follows_108 (by decide) ?_
  have hqc109 := (q_wine0 hw iv (w := wz) (by show wz < Kz 0 1; omega))
  refine kc_Wj (V := lN (Kz 2 wz)) dL_follows_109 hL_wine kRL_127 hqc109 rfl rfl (by decide) (Nat.le_of_ble_eq_true rfl) rfl (by show _ ≤ 60; omega) ?_
  refine ce_lstore dL_follows_112 (Nat.le_of_ble_eq_true rfl) rfl ?_
  refine ce_aload_n dL_follows_114 rfl ?_
  refine ce_iload dL_follows_115 rfl ?_
  refine ce_iconst (v := nI (3)) dL_follows_117 (by decide) ?_
  have hqc118 := (q_wine3 hw iv (w := wz) (by show wz < Kz 0 1; omega))
  refine kc_Wj (V := lN (Kz 5 wz)) dL_follows_118 hL_wine kRL_127 hqc118 rfl rfl (by decide) (Nat.le_of_ble_eq_true rfl) rfl (by show _ ≤ 60; omega) ?_
  refine ce_lconst (v := lN 0) dL_follows_121 (by decide) ?_
  refine ce_lcmp (z := lg_cmp (lN (Kz 5 wz)) (lN (0))) dL_follows_122 rfl ?_
  refine ce_if_neL (a := Kz 5 wz) (b := 0) (tgt := 467) dL_follows_123 (by decide) rfl (by omega) (by omega) (fun c_123 => ?_) (fun c_123 => ?_)
  · refine ce_drop (L' := [some (.ref (a)), some (.int (nI (xz))), some (.long (nw Kz Oz)), none, some (.int (nI (Kz 0 0))), some (.int (nI (Kz 0 1))), some (.long (lN (ce_sum (Kz 9) 36))), none, some (.int (nI (1))), some (.int (nI (iz))), some (.int (nI (wz))), some (.long (lN (Kz 2 wz))), none, none, none, none, none, none, none, none, none, none, none]) (ce_le_s rfl (ce_le_s rfl (ce_le_s rfl (ce_le_n (ce_le_s rfl (ce_le_s rfl (ce_le_s rfl (ce_le_n (ce_le_s rfl (ce_le_s rfl (ce_le_s rfl (ce_le_s rfl (ce_le_n (ce_le_n (ce_le_n (ce_le_n (ce_le_n (ce_le_n (ce_le_n (ce_le_n (ce_le_n (ce_le_n (ce_le_n ce_le_e))))))))))))))))))))))) ?_
    exact fo_4a hx hi hwz (fun kz S σ g hw iv h1 h2 hk => fo_5 hx hi hwz kk hw iv h1 h2 hk) hw iv rfl rfl (by omega)
  · refine fo_3 hx hi hwz c_123 (fun kz S σ g hw iv h1 h2 hk => fo_4a hx hi hwz (fun kz S σ g hw iv h1 h2 hk => fo_5 hx hi hwz kk hw iv h1 h2 hk) hw iv h1 h2 hk) hw iv rfl rfl (by omega)
set_option maxHeartbeats 2000000 in
set_option maxRecDepth 20000 in
theorem fo_75 {a : Nat} {Kz : ce_V} {Oz : Nat → Int32} {sz : ((Nat → Bool) × (Nat → ce_V) × (Nat → Nat → Int32)) × (Nat × (Nat → Nat))} {σ0 : ce_S} {g0 : ce_D} {xz : Nat} (hx : xz < 2147483648) {Q : Option Value → ce_S → ce_D → Prop} {X : String → ce_S → ce_D → Prop} (kk : ∀ (kz : Nat) (S : ks_S) (σ : ce_S) (g : ce_D), kw a S σ0 g0 σ g → kl_iv S → S.1 = (Kz, Oz) → S.2.2 = sz → kz ≤ 57 → ce_WP (ce_rl 2 60) mL_follows (kz) (6 * (kz)) 886 [some (.ref (a)), some (.int (nI (xz))), some (.long (nw Kz Oz)), none, some (.int (nI (Kz 0 0))), some (.int (nI (Kz 0 1))), some (.long (lN (ce_sum (Kz 9) 36))), none, some (.int (nI (1))), none, none, none, none, none, none, none, none, none, none, none, none, none, none] [] σ g Q X) {kz : Nat} {S : ks_S} {σ : ce_S} {g : ce_D} (hw : kw a S σ0 g0 σ g) (iv : kl_iv S) (h1 : S.1 = (Kz, Oz)) (h2 : S.2.2 = sz) (hkz : kz ≤ 20) : ce_WP (ce_rl 2 60) mL_follows (kz) (6 * (kz)) 75 [some (.ref (a)), some (.int (nI (xz))), some (.long (nw Kz Oz)), none, some (.int (nI (Kz 0 0))), some (.int (nI (Kz 0 1))), some (.long (lN (ce_sum (Kz 9) 36))), none, some (.int (nI (1))), none, none, none, none, none, none, none, none, none, none, none, none, none, none] [] σ g Q X := by
  obtain ⟨hz, rfl⟩ : ∃ hz, S = SS Kz Oz hz sz := ⟨_, SS_of h1 h2⟩
  have hk : kv_cl Kz := iv.ok.1
  have hj : kj Kz Oz := iv.kj.1
  have b9 := hk.b
  have c36 := hk.b9
  have hw9 := hw
  refine ce_iload dL_follows_75 rfl ?_
  refine ce_if_leN (tgt := 886) dL_follows_77 (by decide) rfl (by omega) (fun c_77 => ?_) (fun c_77 => ?_)
  · refine ce_drop (L' := [some (.ref (a)), some (.int (nI (xz))), some (.long (nw Kz Oz)), none, some (.int (nI (Kz 0 0))), some (.int (nI (Kz 0 1))), some (.long (lN (ce_sum (Kz 9) 36))), none, some (.int (nI (1))), none, none, none, none, none, none, none, none, none, none, none, none, none, none]) (ce_le_s rfl (ce_le_s rfl (ce_le_s rfl (ce_le_n (ce_le_s rfl (ce_le_s rfl (ce_le_s rfl (ce_le_n (ce_le_s rfl (ce_le_n (ce_le_n (ce_le_n (ce_le_n (ce_le_n (ce_le_n (ce_le_n (ce_le_n (ce_le_n (ce_le_n (ce_le_n (ce_le_n (ce_le_n (ce_le_n ce_le_e))))))))))))))))))))))) ?_
    exact kk _ _ _ _ hw iv rfl rfl (by omega)
  · refine ce_iload dL_follows_80 rfl ?_
    refine ce_if_leN (tgt := 886) dL_follows_82 (by decide) rfl (by omega) (fun c_82 => ?_) (fun c_82 => ?_)
    · refine ce_drop (L' := [some (.ref (a)), some (.int (nI (xz))), some (.long (nw Kz Oz)), none, some (.int (nI (Kz 0 0))), some (.int (nI (Kz 0 1))), some (.long (lN (ce_sum (Kz 9) 36))), none, some (.int (nI (1))), none, none, none, none, none, none, none, none, none, none, none, none, none, none]) (ce_le_s rfl (ce_le_s rfl (ce_le_s rfl (ce_le_n (ce_le_s rfl (ce_le_s rfl (ce_le_s rfl (ce_le_n (ce_le_s rfl (ce_le_n (ce_le_n (ce_le_n (ce_le_n (ce_le_n (ce_le_n (ce_le_n (ce_le_n (ce_le_n (ce_le_n (ce_le_n (ce_le_n (ce_le_n (ce_le_n ce_le_e))))))))))))))))))))))) ?_
      exact kk _ _ _ _ hw iv rfl rfl (by omega)
    · refine ce_iload dL_follows_85 rfl ?_
      refine ce_if_eqN (tgt := 886) dL_follows_87 (by decide) rfl (by omega) (fun c_87 => ?_) (fun c_87 => ?_)
      · omega
      · refine ce_iload_n dL_follows_90 rfl ?_
        refine ce_iload dL_follows_91 rfl ?_
        refine ce_irem (z := nI ((xz) % (Kz 0 0))) dL_follows_93 (nI_ne0 (by omega) (by omega)) (pk_rem (by omega) (by omega) (by omega)) ?_
        refine ce_istore dL_follows_94 (Nat.le_of_ble_eq_true rfl) rfl ?_
        refine ce_iload_n dL_follows_96 rfl ?_
        refine ce_bipush (v := nI (6)) dL_follows_97 (by decide) ?_
        refine ce_idiv (z := nI ((xz) / (6))) dL_follows_99 (nI_ne0 (by omega) (by omega)) (pk_div (by omega) (by omega) (by omega)) ?_
        refine ce_iload dL_follows_100 rfl ?_
        refine ce_irem (z := nI (((xz) / (6)) % (Kz 0 1))) dL_follows_102 (nI_ne0 (by omega) (by omega)) (pk_rem (by omega) (by omega) (by omega)) ?_
        refine ce_istore dL_follows_103 (Nat.le_of_ble_eq_true rfl) rfl ?_
        obtain ⟨iz, hiz⟩ : ∃ iz, iz = xz % Kz 0 0 := ⟨_, rfl⟩
        obtain ⟨wz, hwz⟩ : ∃ wz, wz = xz / 6 % Kz 0 1 := ⟨_, rfl⟩
        have hi : iz < Kz 0 0 := by rw [hiz]; exact Nat.mod_lt _ (by omega)
        have hw : wz < Kz 0 1 := by rw [hwz]; exact Nat.mod_lt _ (by omega)
        rw [← hiz, ← hwz]
        exact fo_2 hx hi hw kk hw9 iv rfl rfl hkz
set_option maxHeartbeats 2000000 in
set_option maxRecDepth 20000 in
theorem m_L_follows {a xz : Nat} {S : ks_S} {σ0 σ : ce_S} {g0 g : ce_D} (hx : xz < 2147483648) (hw : kw a S σ0 g0 σ g) (iv : kl_iv S) : ce_CT (ce_rl 2 60) mL_follows [.ref a, .int (nI (xz))] σ g (kb σ0 g0 a (ks_rest (ks_save S 1) 1)) ce_no := by
  obtain ⟨⟨Kz, Oz⟩, hz, s9⟩ := S
  have hk : kv_cl Kz := iv.ok.1
  have b9 := hk.b
  have c36 := hk.b9
  refine ce_enter (by decide) rfl (Nat.le_of_ble_eq_true rfl) (L := [some (.ref (a)), some (.int (nI (xz))), none, none, none, none, none, none, none, none, none, none, none, none, none, none, none, none, none, none, none, none, none]) rfl ?_
  show ce_WP (ce_rl 2 60) mL_follows 0 (6 * 0) 0 _ _ _ _ _ _
  refine ce_aload_n dL_follows_0 rfl ?_
  have hqc1 := (m_L_now hw iv)
  refine kc_Sj (V := nw Kz Oz) dL_follows_1 hL_now kRL_131 hqc1 rfl rfl (by decide) (Nat.le_of_ble_eq_true rfl) rfl (by show _ ≤ 60; omega) ?_
  refine ce_lstore_n dL_follows_4 (Nat.le_of_ble_eq_true rfl) rfl ?_
  refine ce_aload_n dL_follows_5 rfl ?_
  refine ce_iconst (v := nI (0)) dL_follows_6 (by decide) ?_
  have hqc7 := (q_about0 hw iv)
  refine kc_Wj (V := lN (Kz 0 0)) dL_follows_7 hL_about kRL_112 hqc7 rfl rfl (by decide) (Nat.le_of_ble_eq_true rfl) rfl (by show _ ≤ 60; omega) ?_
  refine ce_l2i (v := nI (Kz 0 0)) dL_follows_10 (lN_i _) ?_
  refine ce_istore dL_follows_11 (Nat.le_of_ble_eq_true rfl) rfl ?_
  refine ce_aload_n dL_follows_13 rfl ?_
  refine ce_iconst (v := nI (1)) dL_follows_14 (by decide) ?_
  have hqc15 := (q_about1 hw iv)
  refine kc_Wj (V := lN (Kz 0 1)) dL_follows_15 hL_about kRL_112 hqc15 rfl rfl (by decide) (Nat.le_of_ble_eq_true rfl) rfl (by show _ ≤ 60; omega) ?_
  refine ce_l2i (v := nI (Kz 0 1)) dL_follows_18 (lN_i _) ?_
  refine ce_istore dL_follows_19 (Nat.le_of_ble_eq_true rfl) rfl ?_
  refine ce_aload_n dL_follows_21 rfl ?_
  refine ce_iconst (v := nI (3)) dL_follows_22 (by decide) ?_
  have hqc23 := (q_about3 hw iv)
  refine kc_Wj (V := lN (ce_sum (Kz 9) 36)) dL_follows_23 hL_about kRL_112 hqc23 rfl rfl (by decide) (Nat.le_of_ble_eq_true rfl) rfl (by show _ ≤ 60; omega) ?_
  refine ce_lstore dL_follows_26 (Nat.le_of_ble_eq_true rfl) rfl ?_
  refine ce_aload_n dL_follows_28 rfl ?_
  refine ce_iconst (v := nI (1)) dL_follows_29 (by decide) ?_
  have hqc30 := (q_save hw iv (s9 := 1) (by decide))
  refine kc_Wk (V := lN (ce_sum (Kz 9) 36)) dL_follows_30 hL_save kRL_177 hqc30 rfl rfl (by decide) (Nat.le_of_ble_eq_true rfl) rfl (by show _ ≤ 60; omega) (fun cs1 cg1 hcg1 => ?_)
  have iv46 := iv_save iv 1
  refine ce_lload dL_follows_33 rfl ?_
  refine ce_lcmp (z := lg_cmp (lN (ce_sum (Kz 9) 36)) (lN (ce_sum (Kz 9) 36))) dL_follows_35 rfl ?_
  refine ce_if_neL (a := ce_sum (Kz 9) 36) (b := ce_sum (Kz 9) 36) (tgt := 72) dL_follows_36 (by decide) rfl (by omega) (by omega) (fun c_36 => ?_) (fun c_36 => ?_)
  · omega
  · refine ce_aload_n dL_follows_39 rfl ?_
    refine ce_iload_n dL_follows_40 rfl ?_
    refine ce_i2l (v := lN (xz)) dL_follows_41 (nI_l (by omega)) ?_
    refine ce_bipush (v := nI (9)) dL_follows_42 (by decide) ?_
    have hqc44 := (q_sim hcg1 iv46 (lN (xz)) (m := 9) (by decide))
    refine kc_Wk (V := (nI (kx_si (ks_save ((Kz, Oz), hz, s9) 1) (lN (xz)) 9)).toInt64) dL_follows_44 hL_simulate kRL_174 hqc44 rfl rfl (by decide) (Nat.le_of_ble_eq_true rfl) rfl (by show _ ≤ 60; omega) (fun cs2 cg2 hcg2 => ?_)
    refine ce_aload_n dL_follows_47 rfl ?_
    refine ce_iload_n dL_follows_48 rfl ?_
    refine ce_i2l (v := lN (xz)) dL_follows_49 (nI_l (by omega)) ?_
    refine ce_bipush (v := nI (9)) dL_follows_50 (by decide) ?_
    have hqc52 := (q_sim hcg2 iv46 (lN (xz)) (m := 9) (by decide))
    refine kc_Wk (V := (nI (kx_si (ks_save ((Kz, Oz), hz, s9) 1) (lN (xz)) 9)).toInt64) dL_follows_52 hL_simulate kRL_174 hqc52 rfl rfl (by decide) (Nat.le_of_ble_eq_true rfl) rfl (by show _ ≤ 60; omega) (fun cs3 cg3 hcg3 => ?_)
    refine ce_lcmp (z := lg_cmp ((nI (kx_si (ks_save ((Kz, Oz), hz, s9) 1) (lN (xz)) 9)).toInt64) ((nI (kx_si (ks_save ((Kz, Oz), hz, s9) 1) (lN (xz)) 9)).toInt64)) dL_follows_55 rfl ?_
    refine ce_if_neC (tgt := 72) dL_follows_56 (by decide) rfl (fun c_56 => ?_) (fun c_56 => ?_)
    · exact absurd rfl c_56
    · refine ce_aload_n dL_follows_59 rfl ?_
      have hqc60 := (m_L_now hcg3 iv46)
      refine kc_Sj (V := nw Kz Oz) dL_follows_60 hL_now kRL_131 hqc60 rfl rfl (by decide) (Nat.le_of_ble_eq_true rfl) rfl (by show _ ≤ 60; omega) ?_
      refine ce_lload_n dL_follows_63 rfl ?_
      refine ce_lcmp (z := lg_cmp (nw Kz Oz) (nw Kz Oz)) dL_follows_64 rfl ?_
      refine ce_if_neC (tgt := 72) dL_follows_65 (by decide) rfl (fun c_65 => ?_) (fun c_65 => ?_)
      · exact absurd rfl c_65
      · refine ce_iconst (v := nI (1)) dL_follows_68 (by decide) ?_
        refine ce_goto (tgt := 73) dL_follows_69 (by decide) ?_
        refine ce_istore dL_follows_73 (Nat.le_of_ble_eq_true rfl) rfl ?_
        exact fo_75 (sz := (ks_save ((Kz, Oz), hz, s9) 1).2.2) hx (fun kz S σ g hw iv h1 h2 hk => fo_6 (S9 := ks_rest (ks_save ((Kz, Oz), hz, s9) 1) 1) hx rfl rfl rfl rfl rfl rfl hw iv h1 h2 hk) hcg3 iv46 rfl rfl (by omega)
