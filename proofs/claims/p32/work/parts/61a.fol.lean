set_option maxHeartbeats 2000000 in
set_option maxRecDepth 20000 in
theorem fo_5 {a : Nat} {Kz : ce_V} {Oz : Nat → Int32} {sz : ((Nat → Bool) × (Nat → ce_V) × (Nat → Nat → Int32)) × (Nat × (Nat → Nat))} {σ0 : ce_S} {g0 : ce_D} {xz : Nat} (hx : xz < 2147483648) {Q : Option Value → ce_S → ce_D → Prop} {X : String → ce_S → ce_D → Prop} {iz wz : Nat} (hi : iz < Kz 0 0) (hwz : wz < Kz 0 1) (kk : ∀ (kz : Nat) (S : ks_S) (σ : ce_S) (g : ce_D), kw a S σ0 g0 σ g → kl_iv S → S.1 = (Kz, Oz) → S.2.2 = sz → kz ≤ 57 → ce_WP (ce_rl 2 60) mL_follows (kz) (6 * (kz)) 886 [some (.ref (a)), some (.int (nI (xz))), some (.long (nw Kz Oz)), none, some (.int (nI (Kz 0 0))), some (.int (nI (Kz 0 1))), some (.long (lN (ce_sum (Kz 9) 36))), none, some (.int (nI (1))), none, none, none, none, none, none, none, none, none, none, none, none, none, none] [] σ g Q X) {kz : Nat} {S : ks_S} {σ : ce_S} {g : ce_D} (hw : kw a S σ0 g0 σ g) (iv : kl_iv S) (h1 : S.1 = (Kz, Oz)) (h2 : S.2.2 = sz) (hkz : kz ≤ 55) : ce_WP (ce_rl 2 60) mL_follows (kz) (6 * (kz)) 823 [some (.ref (a)), some (.int (nI (xz))), some (.long (nw Kz Oz)), none, some (.int (nI (Kz 0 0))), some (.int (nI (Kz 0 1))), some (.long (lN (ce_sum (Kz 9) 36))), none, some (.int (nI (1))), some (.int (nI (iz))), some (.int (nI (wz))), some (.long (lN (Kz 2 wz))), none, none, none, none, none, none, none, none, none, none, none] [] σ g Q X := by
  obtain ⟨hz, rfl⟩ : ∃ hz, S = SS Kz Oz hz sz := ⟨_, SS_of h1 h2⟩
  have hk : kv_cl Kz := iv.ok.1
  have hj : kj Kz Oz := iv.kj.1
  have b9 := hk.b
  have c36 := hk.b9
  refine ce_aload_n dL_follows_823 rfl ?_
  refine ce_iload dL_follows_824 rfl ?_
  refine ce_iconst (v := nI (1)) dL_follows_826 (by decide) ?_
  have hqc827 := (q_member1 hw iv (m := iz) (by show iz < Kz 0 0; omega))
  refine kc_Wj (V := (Oz iz).toInt64) dL_follows_827 hL_member kRL_117 hqc827 rfl rfl (by decide) (Nat.le_of_ble_eq_true rfl) rfl (by show _ ≤ 60; omega) ?_
  refine ce_lstore dL_follows_830 (Nat.le_of_ble_eq_true rfl) rfl ?_
  refine ce_iload dL_follows_832 rfl ?_
  refine ce_if_eqN (tgt := 883) dL_follows_834 (by decide) rfl (by omega) (fun c_834 => ?_) (fun c_834 => ?_)
  · omega
  · refine ce_aload_n dL_follows_837 rfl ?_
    refine ce_iload dL_follows_838 rfl ?_
    have hqc840 := (q_pay hw iv (m := iz) (by show iz < Kz 0 0; omega))
    refine kc_Wk (V := (Oz iz).toInt64) dL_follows_840 hL_pay kRL_156 hqc840 rfl rfl (by decide) (Nat.le_of_ble_eq_true rfl) rfl (by show _ ≤ 60; omega) (fun cs1 cg1 hcg1 => ?_)
    have iv1 := iv_pay iv (m := iz) (by show iz < Kz 0 0; omega)
    refine ce_lload dL_follows_843 rfl ?_
    refine ce_lcmp (z := lg_cmp ((Oz iz).toInt64) ((Oz iz).toInt64)) dL_follows_845 rfl ?_
    refine ce_if_neC (tgt := 883) dL_follows_846 (by decide) rfl (fun c_846 => ?_) (fun c_846 => ?_)
    · exact absurd rfl c_846
    · refine ce_aload_n dL_follows_849 rfl ?_
      refine ce_iload dL_follows_850 rfl ?_
      refine ce_iconst (v := nI (1)) dL_follows_852 (by decide) ?_
      have hqc853 := (q_member1 hcg1 iv1 (m := iz) (by show iz < Kz 0 0; omega))
      refine kc_Wj (V := ((upd Oz iz 0) iz).toInt64) dL_follows_853 hL_member kRL_117 hqc853 rfl rfl (by decide) (Nat.le_of_ble_eq_true rfl) rfl (by show _ ≤ 60; omega) ?_
      refine ce_lconst (v := lN 0) dL_follows_856 (by decide) ?_
      refine ce_lcmp (z := lg_cmp (((upd Oz iz 0) iz).toInt64) (lN (0))) dL_follows_857 rfl ?_
      refine ce_if_neC (tgt := 883) dL_follows_858 (by decide) rfl (fun c_858 => ?_) (fun c_858 => ?_)
      · exact absurd (by show (upd Oz iz 0 iz).toInt64 = lN 0; unfold upd; rw [if_pos rfl]; rfl) c_858
      · refine ce_aload_n dL_follows_861 rfl ?_
        refine kc_Wu dL_follows_862 hL_undo kRL_198 (Nat.le_trans (Nat.sub_le _ _) (iv1).n) (q_undo hcg1 iv1 ks_back.1) rfl rfl (by decide) (Nat.le_of_ble_eq_true rfl) rfl (by show _ ≤ 60; omega) (fun ucg2 hucg2 cs2 cg2 hcg2 => ?_)
        have iv2 := iv_undo iv1 ks_back.1
        obtain ⟨hz3, hw4, iv5⟩ := kw_back (K := Kz) (O := Oz) (s := sz) hcg2 iv2 ks_back.2.1 ks_back.2.2
        refine ce_lconst (v := lN 0) dL_follows_865 (by decide) ?_
        refine ce_lcmp (z := lg_cmp (lN (ucg2)) (lN (0))) dL_follows_866 rfl ?_
        refine ce_if_ltL (a := ucg2) (b := 0) (tgt := 883) dL_follows_867 (by decide) rfl (by omega) (by omega) (fun c_867 => ?_) (fun c_867 => ?_)
        · omega
        · refine ce_aload_n dL_follows_870 rfl ?_
          have hqc871 := (m_L_now hw4 iv5)
          refine kc_Sj (V := nw Kz Oz) dL_follows_871 hL_now kRL_131 hqc871 rfl rfl (by decide) (Nat.le_of_ble_eq_true rfl) rfl (by show _ ≤ 60; omega) ?_
          refine ce_lload_n dL_follows_874 rfl ?_
          refine ce_lcmp (z := lg_cmp (nw Kz Oz) (nw Kz Oz)) dL_follows_875 rfl ?_
          refine ce_if_neC (tgt := 883) dL_follows_876 (by decide) rfl (fun c_876 => ?_) (fun c_876 => ?_)
          · exact absurd rfl c_876
          · refine ce_iconst (v := nI (1)) dL_follows_879 (by decide) ?_
            refine ce_goto (tgt := 884) dL_follows_880 (by decide) ?_
            refine ce_istore dL_follows_884 (Nat.le_of_ble_eq_true rfl) rfl ?_
            refine ce_drop (L' := [some (.ref (a)), some (.int (nI (xz))), some (.long (nw Kz Oz)), none, some (.int (nI (Kz 0 0))), some (.int (nI (Kz 0 1))), some (.long (lN (ce_sum (Kz 9) 36))), none, some (.int (nI (1))), none, none, none, none, none, none, none, none, none, none, none, none, none, none]) (ce_le_s rfl (ce_le_s rfl (ce_le_s rfl (ce_le_n (ce_le_s rfl (ce_le_s rfl (ce_le_s rfl (ce_le_n (ce_le_s rfl (ce_le_n (ce_le_n (ce_le_n (ce_le_n (ce_le_n (ce_le_n (ce_le_n (ce_le_n (ce_le_n (ce_le_n (ce_le_n (ce_le_n (ce_le_n (ce_le_n ce_le_e))))))))))))))))))))))) ?_
            exact kk _ _ _ _ hw4 iv5 rfl rfl (by omega)
set_option maxHeartbeats 2000000 in
set_option maxRecDepth 20000 in
theorem fo_4c {a : Nat} {Kz : ce_V} {Oz : Nat → Int32} {sz : ((Nat → Bool) × (Nat → ce_V) × (Nat → Nat → Int32)) × (Nat × (Nat → Nat))} {σ0 : ce_S} {g0 : ce_D} {xz : Nat} (hx : xz < 2147483648) {Q : Option Value → ce_S → ce_D → Prop} {X : String → ce_S → ce_D → Prop} {iz wz : Nat} (hi : iz < Kz 0 0) (hwz : wz < Kz 0 1) {oz nz : Nat} (ho : oz < Kz 0 0) (hn9 : 1 ≤ nz ∧ nz ≤ Kz 9 (iz * 6 + wz)) (kk : ∀ (kz : Nat) (S : ks_S) (σ : ce_S) (g : ce_D), kw a S σ0 g0 σ g → kl_iv S → S.1 = (Kz, Oz) → S.2.2 = sz → kz ≤ 55 → ce_WP (ce_rl 2 60) mL_follows (kz) (6 * (kz)) 823 [some (.ref (a)), some (.int (nI (xz))), some (.long (nw Kz Oz)), none, some (.int (nI (Kz 0 0))), some (.int (nI (Kz 0 1))), some (.long (lN (ce_sum (Kz 9) 36))), none, some (.int (nI (1))), some (.int (nI (iz))), some (.int (nI (wz))), some (.long (lN (Kz 2 wz))), none, none, none, none, none, none, none, none, none, none, none] [] σ g Q X) {kz : Nat} {S : ks_S} {σ : ce_S} {g : ce_D} (hw : kw a S σ0 g0 σ g) (iv : kl_iv S) (h1 : S.1 = (Kz, Oz)) (h2 : S.2.2 = sz) (hkz : kz ≤ 51) : ce_WP (ce_rl 2 60) mL_follows (kz) (6 * (kz)) 710 [some (.ref (a)), some (.int (nI (xz))), some (.long (nw Kz Oz)), none, some (.int (nI (Kz 0 0))), some (.int (nI (Kz 0 1))), some (.long (lN (ce_sum (Kz 9) 36))), none, some (.int (nI (1))), some (.int (nI (iz))), some (.int (nI (wz))), some (.long (lN (Kz 2 wz))), none, some (.long (lN (Kz 9 (iz * 6 + wz)))), none, none, none, none, none, none, none, some (.int (nI (nz))), some (.int (nI (oz)))] [] σ g Q X := by
  obtain ⟨hz, rfl⟩ : ∃ hz, S = SS Kz Oz hz sz := ⟨_, SS_of h1 h2⟩
  have hk : kv_cl Kz := iv.ok.1
  have hj : kj Kz Oz := iv.kj.1
  have b9 := hk.b
  have c36 := hk.b9
  have hl9 := hk.le (m := iz) (w := wz) (by omega) (by omega)
  have hl8 := hk.le (m := oz) (w := wz) (by omega) (by omega)
  refine ce_iload dL_follows_710 rfl ?_
  refine ce_if_eqN (tgt := 820) dL_follows_712 (by decide) rfl (by omega) (fun c_712 => ?_) (fun c_712 => ?_)
  · omega
  · refine ce_iload dL_follows_715 rfl ?_
    refine ce_iload dL_follows_717 rfl ?_
    refine ce_icmp_eqN (tgt := 807) dL_follows_719 (by decide) rfl rfl (by omega) (by omega) (fun c_719 => ?_) (fun c_719 => ?_)
    · refine ce_aload_n dL_follows_807 rfl ?_
      have hqc808 := (m_L_now hw iv)
      refine kc_Sj (V := nw Kz Oz) dL_follows_808 hL_now kRL_131 hqc808 rfl rfl (by decide) (Nat.le_of_ble_eq_true rfl) rfl (by show _ ≤ 60; omega) ?_
      refine ce_lload_n dL_follows_811 rfl ?_
      refine ce_lcmp (z := lg_cmp (nw Kz Oz) (nw Kz Oz)) dL_follows_812 rfl ?_
      refine ce_if_neC (tgt := 820) dL_follows_813 (by decide) rfl (fun c_813 => ?_) (fun c_813 => ?_)
      · exact absurd rfl c_813
      · refine ce_iconst (v := nI (1)) dL_follows_816 (by decide) ?_
        refine ce_goto (tgt := 821) dL_follows_817 (by decide) ?_
        refine ce_istore dL_follows_821 (Nat.le_of_ble_eq_true rfl) rfl ?_
        refine ce_drop (L' := [some (.ref (a)), some (.int (nI (xz))), some (.long (nw Kz Oz)), none, some (.int (nI (Kz 0 0))), some (.int (nI (Kz 0 1))), some (.long (lN (ce_sum (Kz 9) 36))), none, some (.int (nI (1))), some (.int (nI (iz))), some (.int (nI (wz))), some (.long (lN (Kz 2 wz))), none, none, none, none, none, none, none, none, none, none, none]) (ce_le_s rfl (ce_le_s rfl (ce_le_s rfl (ce_le_n (ce_le_s rfl (ce_le_s rfl (ce_le_s rfl (ce_le_n (ce_le_s rfl (ce_le_s rfl (ce_le_s rfl (ce_le_s rfl (ce_le_n (ce_le_n (ce_le_n (ce_le_n (ce_le_n (ce_le_n (ce_le_n (ce_le_n (ce_le_n (ce_le_n (ce_le_n ce_le_e))))))))))))))))))))))) ?_
        exact kk _ _ _ _ hw iv rfl rfl (by omega)
    · have f1 := fm_han1 (K := Kz) (w := wz) (n := nz) (m := iz) (o := oz) (by omega)
      have f2 := fm_han2 (K := Kz) (m := iz) (o := oz) (w := wz) (n := nz)
      have f3 := fm_hans (K := Kz) (m := iz) (o := oz) (w := wz) (n := nz) (by omega) (by omega) (by omega) (by omega) (by omega)
      refine ce_aload_n dL_follows_722 rfl ?_
      refine ce_iload dL_follows_723 rfl ?_
      refine ce_iload dL_follows_725 rfl ?_
      refine ce_iload dL_follows_727 rfl ?_
      refine ce_iload dL_follows_729 rfl ?_
      have hqc731 := (q_giv hw iv (m := iz) (o := oz) (w := wz) (n := nz) (by show iz < Kz 0 0; omega) (by show oz < Kz 0 0; omega) (by show wz < Kz 0 1; omega) (by omega) (by show 1 ≤ nz ∧ nz ≤ Kz 9 (iz * 6 + wz); omega))
      refine kc_Wk (V := lN (Kz 9 (oz * 6 + wz) + nz)) dL_follows_731 hL_give kRL_141 hqc731 rfl rfl (by decide) (Nat.le_of_ble_eq_true rfl) rfl (by show _ ≤ 60; omega) (fun cs1 cg1 hcg1 => ?_)
      have iv6 := iv_giv iv (m := iz) (o := oz) (w := wz) (n := nz) (by show iz < Kz 0 0; omega) (by show oz < Kz 0 0; omega) (by show wz < Kz 0 1; omega) (by omega) (by show 1 ≤ nz ∧ nz ≤ Kz 9 (iz * 6 + wz); omega)
      have hM7 : (kv_han Kz iz oz wz nz) 0 0 = Kz 0 0 := (by unfold kv_han; rw [kv_up_ne (by decide), kv_up_ne (by decide)])
      have hW7 : (kv_han Kz iz oz wz nz) 0 1 = Kz 0 1 := (by unfold kv_han; rw [kv_up_ne (by decide), kv_up_ne (by decide)])
      refine ce_iload dL_follows_734 rfl ?_
      refine ce_i2l (v := lN (nz)) dL_follows_736 (nI_l (by omega)) ?_
      refine ce_lcmp (z := lg_cmp (lN (Kz 9 (oz * 6 + wz) + nz)) (lN (nz))) dL_follows_737 rfl ?_
      refine ce_if_ltL (a := Kz 9 (oz * 6 + wz) + nz) (b := nz) (tgt := 820) dL_follows_738 (by decide) rfl (by omega) (by omega) (fun c_738 => ?_) (fun c_738 => ?_)
      · omega
      · refine ce_aload_n dL_follows_741 rfl ?_
        refine ce_iload dL_follows_742 rfl ?_
        refine ce_iload dL_follows_744 rfl ?_
        refine ce_iconst (v := nI (2)) dL_follows_746 (by decide) ?_
        have hqc747 := (q_has2 hcg1 iv6 (m := iz) (w := wz) (by show iz < (kv_han Kz iz oz wz nz) 0 0; omega) (by show wz < (kv_han Kz iz oz wz nz) 0 1; omega))
        refine kc_Wj (V := lN ((kv_han Kz iz oz wz nz) 9 (iz * 6 + wz))) dL_follows_747 hL_has kRL_122 hqc747 rfl rfl (by decide) (Nat.le_of_ble_eq_true rfl) rfl (by show _ ≤ 60; omega) ?_
        refine ce_lload dL_follows_750 rfl ?_
        refine ce_iload dL_follows_752 rfl ?_
        refine ce_i2l (v := lN (nz)) dL_follows_754 (nI_l (by omega)) ?_
        refine ce_lsub (z := lN (Kz 9 (iz * 6 + wz) - (nz))) dL_follows_755 (lN_sub (by omega)) ?_
        refine ce_lcmp (z := lg_cmp (lN ((kv_han Kz iz oz wz nz) 9 (iz * 6 + wz))) (lN (Kz 9 (iz * 6 + wz) - (nz)))) dL_follows_756 rfl ?_
        refine ce_if_neL (a := (kv_han Kz iz oz wz nz) 9 (iz * 6 + wz)) (b := Kz 9 (iz * 6 + wz) - (nz)) (tgt := 820) dL_follows_757 (by decide) rfl (by omega) (by omega) (fun c_757 => ?_) (fun c_757 => ?_)
        · omega
        · refine ce_aload_n dL_follows_760 rfl ?_
          refine ce_iconst (v := nI (3)) dL_follows_761 (by decide) ?_
          have hqc762 := (q_about3 hcg1 iv6)
          refine kc_Wj (V := lN (ce_sum ((kv_han Kz iz oz wz nz) 9) 36)) dL_follows_762 hL_about kRL_112 hqc762 rfl rfl (by decide) (Nat.le_of_ble_eq_true rfl) rfl (by show _ ≤ 60; omega) ?_
          refine ce_lload dL_follows_765 rfl ?_
          refine ce_lcmp (z := lg_cmp (lN (ce_sum ((kv_han Kz iz oz wz nz) 9) 36)) (lN (ce_sum (Kz 9) 36))) dL_follows_767 rfl ?_
          refine ce_if_neL (a := ce_sum ((kv_han Kz iz oz wz nz) 9) 36) (b := ce_sum (Kz 9) 36) (tgt := 820) dL_follows_768 (by decide) rfl (by omega) (by omega) (fun c_768 => ?_) (fun c_768 => ?_)
          · omega
          · refine ce_aload_n dL_follows_771 rfl ?_
            refine ce_iload dL_follows_772 rfl ?_
            refine ce_iload dL_follows_774 rfl ?_
            refine ce_iload dL_follows_776 rfl ?_
            refine ce_iload dL_follows_778 rfl ?_
            have hqc780 := (q_giv hcg1 iv6 (m := oz) (o := iz) (w := wz) (n := nz) (by show oz < (kv_han Kz iz oz wz nz) 0 0; omega) (by show iz < (kv_han Kz iz oz wz nz) 0 0; omega) (by show wz < (kv_han Kz iz oz wz nz) 0 1; omega) (by omega) (by show 1 ≤ nz ∧ nz ≤ (kv_han Kz iz oz wz nz) 9 (oz * 6 + wz); omega))
            refine kc_Wk (V := lN ((kv_han Kz iz oz wz nz) 9 (iz * 6 + wz) + nz)) dL_follows_780 hL_give kRL_141 hqc780 rfl rfl (by decide) (Nat.le_of_ble_eq_true rfl) rfl (by show _ ≤ 60; omega) (fun cs2 cg2 hcg2 => ?_)
            have iv7 := iv_giv iv6 (m := oz) (o := iz) (w := wz) (n := nz) (by show oz < (kv_han Kz iz oz wz nz) 0 0; omega) (by show iz < (kv_han Kz iz oz wz nz) 0 0; omega) (by show wz < (kv_han Kz iz oz wz nz) 0 1; omega) (by omega) (by show 1 ≤ nz ∧ nz ≤ (kv_han Kz iz oz wz nz) 9 (oz * 6 + wz); omega)
            have hM8 : (kv_han (kv_han Kz iz oz wz nz) oz iz wz nz) 0 0 = (kv_han Kz iz oz wz nz) 0 0 := (by unfold kv_han; rw [kv_up_ne (by decide), kv_up_ne (by decide)])
            have hW8 : (kv_han (kv_han Kz iz oz wz nz) oz iz wz nz) 0 1 = (kv_han Kz iz oz wz nz) 0 1 := (by unfold kv_han; rw [kv_up_ne (by decide), kv_up_ne (by decide)])
            refine ce_lload dL_follows_783 rfl ?_
            refine ce_lcmp (z := lg_cmp (lN ((kv_han Kz iz oz wz nz) 9 (iz * 6 + wz) + nz)) (lN (Kz 9 (iz * 6 + wz)))) dL_follows_785 rfl ?_
            refine ce_if_neL (a := (kv_han Kz iz oz wz nz) 9 (iz * 6 + wz) + nz) (b := Kz 9 (iz * 6 + wz)) (tgt := 820) dL_follows_786 (by decide) rfl (by omega) (by omega) (fun c_786 => ?_) (fun c_786 => ?_)
            · omega
            · refine ce_aload_n dL_follows_789 rfl ?_
              refine kc_Wu dL_follows_790 hL_undo kRL_198 (Nat.le_trans (Nat.sub_le _ _) (iv7).n) (q_undo hcg2 iv7 ks_back.1) rfl rfl (by decide) (Nat.le_of_ble_eq_true rfl) rfl (by show _ ≤ 60; omega) (fun ucg3 hucg3 cs3 cg3 hcg3 => ?_)
              have iv8 := iv_undo iv7 ks_back.1
              refine ce_lconst (v := lN 0) dL_follows_793 (by decide) ?_
              refine ce_lcmp (z := lg_cmp (lN (ucg3)) (lN (0))) dL_follows_794 rfl ?_
              refine ce_if_ltL (a := ucg3) (b := 0) (tgt := 820) dL_follows_795 (by decide) rfl (by omega) (by omega) (fun c_795 => ?_) (fun c_795 => ?_)
              · omega
              · refine ce_aload_n dL_follows_798 rfl ?_
                refine kc_Wu dL_follows_799 hL_undo kRL_198 (Nat.le_trans (Nat.sub_le _ _) (iv8).n) (q_undo hcg3 iv8 ks_back2.1) rfl rfl (by decide) (Nat.le_of_ble_eq_true rfl) rfl (by show _ ≤ 60; omega) (fun ucg4 hucg4 cs4 cg4 hcg4 => ?_)
                have iv9 := iv_undo iv8 ks_back2.1
                obtain ⟨hz10, hw11, iv12⟩ := kw_back (K := Kz) (O := Oz) (s := sz) hcg4 iv9 ks_back2.2.1 ks_back2.2.2
                refine ce_lconst (v := lN 0) dL_follows_802 (by decide) ?_
                refine ce_lcmp (z := lg_cmp (lN (ucg4)) (lN (0))) dL_follows_803 rfl ?_
                refine ce_if_ltL (a := ucg4) (b := 0) (tgt := 820) dL_follows_804 (by decide) rfl (by omega) (by omega) (fun c_804 => ?_) (fun c_804 => ?_)
                · omega
                · refine ce_aload_n dL_follows_807 rfl ?_
                  have hqc808 := (m_L_now hw11 iv12)
                  refine kc_Sj (V := nw Kz Oz) dL_follows_808 hL_now kRL_131 hqc808 rfl rfl (by decide) (Nat.le_of_ble_eq_true rfl) rfl (by show _ ≤ 60; omega) ?_
                  refine ce_lload_n dL_follows_811 rfl ?_
                  refine ce_lcmp (z := lg_cmp (nw Kz Oz) (nw Kz Oz)) dL_follows_812 rfl ?_
                  refine ce_if_neC (tgt := 820) dL_follows_813 (by decide) rfl (fun c_813 => ?_) (fun c_813 => ?_)
                  · exact absurd rfl c_813
                  · refine ce_iconst (v := nI (1)) dL_follows_816 (by decide) ?_
                    refine ce_goto (tgt := 821) dL_follows_817 (by decide) ?_
                    refine ce_istore dL_follows_821 (Nat.le_of_ble_eq_true rfl) rfl ?_
                    refine ce_drop (L' := [some (.ref (a)), some (.int (nI (xz))), some (.long (nw Kz Oz)), none, some (.int (nI (Kz 0 0))), some (.int (nI (Kz 0 1))), some (.long (lN (ce_sum (Kz 9) 36))), none, some (.int (nI (1))), some (.int (nI (iz))), some (.int (nI (wz))), some (.long (lN (Kz 2 wz))), none, none, none, none, none, none, none, none, none, none, none]) (ce_le_s rfl (ce_le_s rfl (ce_le_s rfl (ce_le_n (ce_le_s rfl (ce_le_s rfl (ce_le_s rfl (ce_le_n (ce_le_s rfl (ce_le_s rfl (ce_le_s rfl (ce_le_s rfl (ce_le_n (ce_le_n (ce_le_n (ce_le_n (ce_le_n (ce_le_n (ce_le_n (ce_le_n (ce_le_n (ce_le_n (ce_le_n ce_le_e))))))))))))))))))))))) ?_
                    exact kk _ _ _ _ hw11 iv12 rfl rfl (by omega)
set_option maxHeartbeats 2000000 in
set_option maxRecDepth 20000 in
theorem fo_4b {a : Nat} {Kz : ce_V} {Oz : Nat → Int32} {sz : ((Nat → Bool) × (Nat → ce_V) × (Nat → Nat → Int32)) × (Nat × (Nat → Nat))} {σ0 : ce_S} {g0 : ce_D} {xz : Nat} (hx : xz < 2147483648) {Q : Option Value → ce_S → ce_D → Prop} {X : String → ce_S → ce_D → Prop} {iz wz : Nat} (hi : iz < Kz 0 0) (hwz : wz < Kz 0 1) {nz : Nat} (hn9 : 1 ≤ nz ∧ nz ≤ Kz 9 (iz * 6 + wz)) (kk : ∀ (kz : Nat) (S : ks_S) (σ : ce_S) (g : ce_D), kw a S σ0 g0 σ g → kl_iv S → S.1 = (Kz, Oz) → S.2.2 = sz → kz ≤ 55 → ce_WP (ce_rl 2 60) mL_follows (kz) (6 * (kz)) 823 [some (.ref (a)), some (.int (nI (xz))), some (.long (nw Kz Oz)), none, some (.int (nI (Kz 0 0))), some (.int (nI (Kz 0 1))), some (.long (lN (ce_sum (Kz 9) 36))), none, some (.int (nI (1))), some (.int (nI (iz))), some (.int (nI (wz))), some (.long (lN (Kz 2 wz))), none, none, none, none, none, none, none, none, none, none, none] [] σ g Q X) {kz : Nat} {S : ks_S} {σ : ce_S} {g : ce_D} (hw : kw a S σ0 g0 σ g) (iv : kl_iv S) (h1 : S.1 = (Kz, Oz)) (h2 : S.2.2 = sz) (hkz : kz ≤ 49) : ce_WP (ce_rl 2 60) mL_follows (kz) (6 * (kz)) 636 [some (.ref (a)), some (.int (nI (xz))), some (.long (nw Kz Oz)), none, some (.int (nI (Kz 0 0))), some (.int (nI (Kz 0 1))), some (.long (lN (ce_sum (Kz 9) 36))), none, some (.int (nI (1))), some (.int (nI (iz))), some (.int (nI (wz))), some (.long (lN (Kz 2 wz))), none, some (.long (lN (Kz 9 (iz * 6 + wz)))), none, none, none, none, none, none, none, some (.int (nI (nz))), none] [] σ g Q X := by
  obtain ⟨hz, rfl⟩ : ∃ hz, S = SS Kz Oz hz sz := ⟨_, SS_of h1 h2⟩
  have hk : kv_cl Kz := iv.ok.1
  have hj : kj Kz Oz := iv.kj.1
  have b9 := hk.b
  have c36 := hk.b9
  have hl9 := hk.le (m := iz) (w := wz) (by omega) (by omega)
  have f1 := fm_dri (K := Kz) (m := iz) (w := wz) (n := nz)
  have f2 := fm_dris (K := Kz) (m := iz) (w := wz) (n := nz) (by omega) (by omega) (by omega)
  refine ce_iload dL_follows_636 rfl ?_
  refine ce_if_eqN (tgt := 698) dL_follows_638 (by decide) rfl (by omega) (fun c_638 => ?_) (fun c_638 => ?_)
  · omega
  · refine ce_aload_n dL_follows_641 rfl ?_
    refine ce_iload dL_follows_642 rfl ?_
    refine ce_iload dL_follows_644 rfl ?_
    refine ce_iload dL_follows_646 rfl ?_
    have hqc648 := (q_dri hw iv (m := iz) (w := wz) (n := nz) (by show iz < Kz 0 0; omega) (by show wz < Kz 0 1; omega) hn9)
    refine kc_Wk (V := lN (Kz 9 (iz * 6 + wz) - nz)) dL_follows_648 hL_drink kRL_139 hqc648 rfl rfl (by decide) (Nat.le_of_ble_eq_true rfl) rfl (by show _ ≤ 60; omega) (fun cs1 cg1 hcg1 => ?_)
    have iv13 := iv_dri iv (m := iz) (w := wz) (n := nz) (by show iz < Kz 0 0; omega) (by show wz < Kz 0 1; omega) hn9
    have hM6 : (kv_dri Kz iz wz nz) 0 0 = Kz 0 0 := (by unfold kv_dri; rw [kv_up_ne (by decide), kv_up_ne (by decide), kv_take_ne (by decide)])
    have hW6 : (kv_dri Kz iz wz nz) 0 1 = Kz 0 1 := (by unfold kv_dri; rw [kv_up_ne (by decide), kv_up_ne (by decide), kv_take_ne (by decide)])
    refine ce_lload dL_follows_651 rfl ?_
    refine ce_iload dL_follows_653 rfl ?_
    refine ce_i2l (v := lN (nz)) dL_follows_655 (nI_l (by omega)) ?_
    refine ce_lsub (z := lN (Kz 9 (iz * 6 + wz) - (nz))) dL_follows_656 (lN_sub (by omega)) ?_
    refine ce_lcmp (z := lg_cmp (lN (Kz 9 (iz * 6 + wz) - nz)) (lN (Kz 9 (iz * 6 + wz) - (nz)))) dL_follows_657 rfl ?_
    refine ce_if_neL (a := Kz 9 (iz * 6 + wz) - nz) (b := Kz 9 (iz * 6 + wz) - (nz)) (tgt := 698) dL_follows_658 (by decide) rfl (by omega) (by omega) (fun c_658 => ?_) (fun c_658 => ?_)
    · omega
    · refine ce_aload_n dL_follows_661 rfl ?_
      refine ce_iconst (v := nI (3)) dL_follows_662 (by decide) ?_
      have hqc663 := (q_about3 hcg1 iv13)
      refine kc_Wj (V := lN (ce_sum ((kv_dri Kz iz wz nz) 9) 36)) dL_follows_663 hL_about kRL_112 hqc663 rfl rfl (by decide) (Nat.le_of_ble_eq_true rfl) rfl (by show _ ≤ 60; omega) ?_
      refine ce_lload dL_follows_666 rfl ?_
      refine ce_iload dL_follows_668 rfl ?_
      refine ce_i2l (v := lN (nz)) dL_follows_670 (nI_l (by omega)) ?_
      refine ce_lsub (z := lN (ce_sum (Kz 9) 36 - (nz))) dL_follows_671 (lN_sub (by omega)) ?_
      refine ce_lcmp (z := lg_cmp (lN (ce_sum ((kv_dri Kz iz wz nz) 9) 36)) (lN (ce_sum (Kz 9) 36 - (nz)))) dL_follows_672 rfl ?_
      refine ce_if_neL (a := ce_sum ((kv_dri Kz iz wz nz) 9) 36) (b := ce_sum (Kz 9) 36 - (nz)) (tgt := 698) dL_follows_673 (by decide) rfl (by omega) (by omega) (fun c_673 => ?_) (fun c_673 => ?_)
      · omega
      · refine ce_aload_n dL_follows_676 rfl ?_
        refine kc_Wu dL_follows_677 hL_undo kRL_198 (Nat.le_trans (Nat.sub_le _ _) (iv13).n) (q_undo hcg1 iv13 ks_back.1) rfl rfl (by decide) (Nat.le_of_ble_eq_true rfl) rfl (by show _ ≤ 60; omega) (fun ucg2 hucg2 cs2 cg2 hcg2 => ?_)
        have iv14 := iv_undo iv13 ks_back.1
        obtain ⟨hz15, hw16, iv17⟩ := kw_back (K := Kz) (O := Oz) (s := sz) hcg2 iv14 ks_back.2.1 ks_back.2.2
        refine ce_lconst (v := lN 0) dL_follows_680 (by decide) ?_
        refine ce_lcmp (z := lg_cmp (lN (ucg2)) (lN (0))) dL_follows_681 rfl ?_
        refine ce_if_ltL (a := ucg2) (b := 0) (tgt := 698) dL_follows_682 (by decide) rfl (by omega) (by omega) (fun c_682 => ?_) (fun c_682 => ?_)
        · omega
        · refine ce_aload_n dL_follows_685 rfl ?_
          have hqc686 := (m_L_now hw16 iv17)
          refine kc_Sj (V := nw Kz Oz) dL_follows_686 hL_now kRL_131 hqc686 rfl rfl (by decide) (Nat.le_of_ble_eq_true rfl) rfl (by show _ ≤ 60; omega) ?_
          refine ce_lload_n dL_follows_689 rfl ?_
          refine ce_lcmp (z := lg_cmp (nw Kz Oz) (nw Kz Oz)) dL_follows_690 rfl ?_
          refine ce_if_neC (tgt := 698) dL_follows_691 (by decide) rfl (fun c_691 => ?_) (fun c_691 => ?_)
          · exact absurd rfl c_691
          · refine ce_iconst (v := nI (1)) dL_follows_694 (by decide) ?_
            refine ce_goto (tgt := 699) dL_follows_695 (by decide) ?_
            refine ce_istore dL_follows_699 (Nat.le_of_ble_eq_true rfl) rfl ?_
            refine ce_iload_n dL_follows_701 rfl ?_
            refine ce_bipush (v := nI (7)) dL_follows_702 (by decide) ?_
            refine ce_idiv (z := nI ((xz) / (7))) dL_follows_704 (nI_ne0 (by omega) (by omega)) (pk_div (by omega) (by omega) (by omega)) ?_
            refine ce_iload dL_follows_705 rfl ?_
            refine ce_irem (z := nI (((xz) / (7)) % (Kz 0 0))) dL_follows_707 (nI_ne0 (by omega) (by omega)) (pk_rem (by omega) (by omega) (by omega)) ?_
            refine ce_istore dL_follows_708 (Nat.le_of_ble_eq_true rfl) rfl ?_
            exact fo_4c hx hi hwz (Nat.mod_lt _ (by omega)) hn9 kk hw16 iv17 rfl rfl (by omega)
set_option maxHeartbeats 2000000 in
set_option maxRecDepth 20000 in
theorem fo_4a {a : Nat} {Kz : ce_V} {Oz : Nat → Int32} {sz : ((Nat → Bool) × (Nat → ce_V) × (Nat → Nat → Int32)) × (Nat × (Nat → Nat))} {σ0 : ce_S} {g0 : ce_D} {xz : Nat} (hx : xz < 2147483648) {Q : Option Value → ce_S → ce_D → Prop} {X : String → ce_S → ce_D → Prop} {iz wz : Nat} (hi : iz < Kz 0 0) (hwz : wz < Kz 0 1) (kk : ∀ (kz : Nat) (S : ks_S) (σ : ce_S) (g : ce_D), kw a S σ0 g0 σ g → kl_iv S → S.1 = (Kz, Oz) → S.2.2 = sz → kz ≤ 55 → ce_WP (ce_rl 2 60) mL_follows (kz) (6 * (kz)) 823 [some (.ref (a)), some (.int (nI (xz))), some (.long (nw Kz Oz)), none, some (.int (nI (Kz 0 0))), some (.int (nI (Kz 0 1))), some (.long (lN (ce_sum (Kz 9) 36))), none, some (.int (nI (1))), some (.int (nI (iz))), some (.int (nI (wz))), some (.long (lN (Kz 2 wz))), none, none, none, none, none, none, none, none, none, none, none] [] σ g Q X) {kz : Nat} {S : ks_S} {σ : ce_S} {g : ce_D} (hw : kw a S σ0 g0 σ g) (iv : kl_iv S) (h1 : S.1 = (Kz, Oz)) (h2 : S.2.2 = sz) (hkz : kz ≤ 46) : ce_WP (ce_rl 2 60) mL_follows (kz) (6 * (kz)) 467 [some (.ref (a)), some (.int (nI (xz))), some (.long (nw Kz Oz)), none, some (.int (nI (Kz 0 0))), some (.int (nI (Kz 0 1))), some (.long (lN (ce_sum (Kz 9) 36))), none, some (.int (nI (1))), some (.int (nI (iz))), some (.int (nI (wz))), some (.long (lN (Kz 2 wz))), none, none, none, none, none, none, none, none, none, none, none] [] σ g Q X := by
  obtain ⟨hz, rfl⟩ : ∃ hz, S = SS Kz Oz hz sz := ⟨_, SS_of h1 h2⟩
  have hk : kv_cl Kz := iv.ok.1
  have hj : kj Kz Oz := iv.kj.1
  have b9 := hk.b
  have c36 := hk.b9
  have hl9 := hk.le (m := iz) (w := wz) (by omega) (by omega)
  have hpr := hk.pr wz
  refine ce_aload_n dL_follows_467 rfl ?_
  refine ce_iload dL_follows_468 rfl ?_
  refine ce_iload dL_follows_470 rfl ?_
  refine ce_iconst (v := nI (2)) dL_follows_472 (by decide) ?_
  have hqc473 := (q_has2 hw iv (m := iz) (w := wz) (by show iz < Kz 0 0; omega) (by show wz < Kz 0 1; omega))
  refine kc_Wj (V := lN (Kz 9 (iz * 6 + wz))) dL_follows_473 hL_has kRL_122 hqc473 rfl rfl (by decide) (Nat.le_of_ble_eq_true rfl) rfl (by show _ ≤ 60; omega) ?_
  refine ce_lstore dL_follows_476 (Nat.le_of_ble_eq_true rfl) rfl ?_
  refine ce_lload dL_follows_478 rfl ?_
  refine ce_lconst (v := lN 0) dL_follows_480 (by decide) ?_
  refine ce_lcmp (z := lg_cmp (lN (Kz 9 (iz * 6 + wz))) (lN (0))) dL_follows_481 rfl ?_
  refine ce_if_leL (a := Kz 9 (iz * 6 + wz)) (b := 0) (tgt := 823) dL_follows_482 (by decide) rfl (by omega) (by omega) (fun c_482 => ?_) (fun c_482 => ?_)
  · refine ce_drop (L' := [some (.ref (a)), some (.int (nI (xz))), some (.long (nw Kz Oz)), none, some (.int (nI (Kz 0 0))), some (.int (nI (Kz 0 1))), some (.long (lN (ce_sum (Kz 9) 36))), none, some (.int (nI (1))), some (.int (nI (iz))), some (.int (nI (wz))), some (.long (lN (Kz 2 wz))), none, none, none, none, none, none, none, none, none, none, none]) (ce_le_s rfl (ce_le_s rfl (ce_le_s rfl (ce_le_n (ce_le_s rfl (ce_le_s rfl (ce_le_s rfl (ce_le_n (ce_le_s rfl (ce_le_s rfl (ce_le_s rfl (ce_le_s rfl (ce_le_n (ce_le_n (ce_le_n (ce_le_n (ce_le_n (ce_le_n (ce_le_n (ce_le_n (ce_le_n (ce_le_n (ce_le_n ce_le_e))))))))))))))))))))))) ?_
    exact kk _ _ _ _ hw iv rfl rfl (by omega)
  · have hown : 0 < Kz 9 (iz * 6 + wz) := c_482
    refine ce_iload dL_follows_485 rfl ?_
    refine ce_if_eqN (tgt := 823) dL_follows_487 (by decide) rfl (by omega) (fun c_487 => ?_) (fun c_487 => ?_)
    · omega
    · refine ce_aload_n dL_follows_490 rfl ?_
      refine ce_iload dL_follows_491 rfl ?_
      refine ce_iconst (v := nI (1)) dL_follows_493 (by decide) ?_
      have hqc494 := (q_member1 hw iv (m := iz) (by show iz < Kz 0 0; omega))
      refine kc_Wj (V := (Oz iz).toInt64) dL_follows_494 hL_member kRL_117 hqc494 rfl rfl (by decide) (Nat.le_of_ble_eq_true rfl) rfl (by show _ ≤ 60; omega) ?_
      refine ce_lstore dL_follows_497 (Nat.le_of_ble_eq_true rfl) rfl ?_
      refine ce_aload_n dL_follows_499 rfl ?_
      refine ce_iload dL_follows_500 rfl ?_
      refine ce_iconst (v := nI (2)) dL_follows_502 (by decide) ?_
      have hqc503 := (q_wine2 hw iv (w := wz) (by show wz < Kz 0 1; omega))
      refine kc_Wj (V := lN (Kz 4 wz)) dL_follows_503 hL_wine kRL_127 hqc503 rfl rfl (by decide) (Nat.le_of_ble_eq_true rfl) rfl (by show _ ≤ 60; omega) ?_
      refine ce_lstore dL_follows_506 (Nat.le_of_ble_eq_true rfl) rfl ?_
      rcases Nat.eq_zero_or_pos (Kz 4 wz) with hR | hR
      · have hif : (if 0 < Kz 4 wz then 1 else 0) = 0 := if_neg (by omega)
        have h9 := q_cor hw iv (m := iz) (w := wz) hi hwz hown
        have e9 : (if 0 < sK (SS Kz Oz hz sz) 4 wz then 1 else 0) = 0 := hif
        rw [e9] at h9
        have f1 : kv_cor Kz iz wz 9 (iz * 6 + wz) = Kz 9 (iz * 6 + wz) - 1 := fm_cor9.trans (if_neg (by omega))
        have f2 : kv_cor Kz iz wz 4 wz = Kz 4 wz := fm_cor4.trans (if_neg (by omega))
        have f3 := fm_coro (m := iz) (w := wz) hk hj (by omega)
        rw [if_neg (by omega)] at f3
        refine ce_aload_n dL_follows_508 rfl ?_
        refine ce_iload dL_follows_509 rfl ?_
        refine ce_iload dL_follows_511 rfl ?_
        refine kc_Wk (V := lN (0)) dL_follows_513 hL_cork kRL_154 h9 rfl rfl (by decide) (Nat.le_of_ble_eq_true rfl) rfl (by show _ ≤ 60; omega) (fun cs1 cg1 hcg1 => ?_)
        have iv18 := iv_cor iv (m := iz) (w := wz) (by show iz < Kz 0 0; omega) (by show wz < Kz 0 1; omega) hown
        have hM5 : (kv_cor Kz iz wz) 0 0 = Kz 0 0 := kv_cor_ne (by decide)
        have hW5 : (kv_cor Kz iz wz) 0 1 = Kz 0 1 := kv_cor_ne (by decide)
        refine ce_lstore dL_follows_516 (Nat.le_of_ble_eq_true rfl) rfl ?_
        refine ce_lload dL_follows_518 rfl ?_
        refine ce_lload dL_follows_520 rfl ?_
        refine ce_lconst (v := lN 0) dL_follows_522 (by decide) ?_
        refine ce_lcmp (z := lg_cmp (lN (Kz 4 wz)) (lN (0))) dL_follows_523 rfl ?_
        refine ce_if_leL (a := Kz 4 wz) (b := 0) (tgt := 531) dL_follows_524 (by decide) rfl (by omega) (by omega) (fun c_524 => ?_) (fun c_524 => ?_)
        · refine ce_lconst (v := lN 0) dL_follows_531 (by decide) ?_
          refine ce_lcmp (z := lg_cmp (lN (0)) (lN (0))) dL_follows_532 rfl ?_
          refine ce_if_neL (a := 0) (b := 0) (tgt := 621) dL_follows_533 (by decide) rfl (by omega) (by omega) (fun c_533 => ?_) (fun c_533 => ?_)
          · omega
          · refine ce_aload_n dL_follows_536 rfl ?_
            refine ce_iload dL_follows_537 rfl ?_
            refine ce_iload dL_follows_539 rfl ?_
            refine ce_iconst (v := nI (2)) dL_follows_541 (by decide) ?_
            have hqc542 := (q_has2 hcg1 iv18 (m := iz) (w := wz) (by show iz < (kv_cor Kz iz wz) 0 0; omega) (by show wz < (kv_cor Kz iz wz) 0 1; omega))
            refine kc_Wj (V := lN ((kv_cor Kz iz wz) 9 (iz * 6 + wz))) dL_follows_542 hL_has kRL_122 hqc542 rfl rfl (by decide) (Nat.le_of_ble_eq_true rfl) rfl (by show _ ≤ 60; omega) ?_
            refine ce_lload dL_follows_545 rfl ?_
            refine ce_lconst (v := lN 1) dL_follows_547 (by decide) ?_
            refine ce_lsub (z := lN (Kz 9 (iz * 6 + wz) - (1))) dL_follows_548 (lN_sub (by omega)) ?_
            refine ce_lload dL_follows_549 rfl ?_
            refine ce_ladd (z := lN (Kz 9 (iz * 6 + wz) - (1) + (0))) dL_follows_551 (lN_add _ _) ?_
            refine ce_lcmp (z := lg_cmp (lN ((kv_cor Kz iz wz) 9 (iz * 6 + wz))) (lN (Kz 9 (iz * 6 + wz) - (1) + (0)))) dL_follows_552 rfl ?_
            refine ce_if_neL (a := (kv_cor Kz iz wz) 9 (iz * 6 + wz)) (b := Kz 9 (iz * 6 + wz) - (1) + (0)) (tgt := 621) dL_follows_553 (by decide) rfl (by omega) (by omega) (fun c_553 => ?_) (fun c_553 => ?_)
            · omega
            · refine ce_aload_n dL_follows_556 rfl ?_
              refine ce_iload dL_follows_557 rfl ?_
              refine ce_iconst (v := nI (2)) dL_follows_559 (by decide) ?_
              have hqc560 := (q_wine2 hcg1 iv18 (w := wz) (by show wz < (kv_cor Kz iz wz) 0 1; omega))
              refine kc_Wj (V := lN ((kv_cor Kz iz wz) 4 wz)) dL_follows_560 hL_wine kRL_127 hqc560 rfl rfl (by decide) (Nat.le_of_ble_eq_true rfl) rfl (by show _ ≤ 60; omega) ?_
              refine ce_lload dL_follows_563 rfl ?_
              refine ce_lload dL_follows_565 rfl ?_
              refine ce_lsub (z := lN (Kz 4 wz - (0))) dL_follows_567 (lN_sub (by omega)) ?_
              refine ce_lcmp (z := lg_cmp (lN ((kv_cor Kz iz wz) 4 wz)) (lN (Kz 4 wz - (0)))) dL_follows_568 rfl ?_
              refine ce_if_neL (a := (kv_cor Kz iz wz) 4 wz) (b := Kz 4 wz - (0)) (tgt := 621) dL_follows_569 (by decide) rfl (by omega) (by omega) (fun c_569 => ?_) (fun c_569 => ?_)
              · omega
              · refine ce_aload_n dL_follows_572 rfl ?_
                refine ce_iload dL_follows_573 rfl ?_
                refine ce_iconst (v := nI (1)) dL_follows_575 (by decide) ?_
                have hqc576 := (q_member1 hcg1 iv18 (m := iz) (by show iz < (kv_cor Kz iz wz) 0 0; omega))
                refine kc_Wj (V := ((ko_cor Kz iz wz Oz) iz).toInt64) dL_follows_576 hL_member kRL_117 hqc576 rfl rfl (by decide) (Nat.le_of_ble_eq_true rfl) rfl (by show _ ≤ 60; omega) ?_
                refine ce_lload dL_follows_579 rfl ?_
                refine ce_lload dL_follows_581 rfl ?_
                refine ce_lconst (v := lN 1) dL_follows_583 (by decide) ?_
                refine ce_lcmp (z := lg_cmp (lN (0)) (lN (1))) dL_follows_584 rfl ?_
                refine ce_if_neL (a := 0) (b := 1) (tgt := 592) dL_follows_585 (by decide) rfl (by omega) (by omega) (fun c_585 => ?_) (fun c_585 => ?_)
                · refine ce_lload dL_follows_592 rfl ?_
                  refine ce_lsub (z := ((Oz iz).toInt64) - (lN (Kz 2 wz))) dL_follows_594 rfl ?_
                  refine ce_lcmp (z := lg_cmp (((ko_cor Kz iz wz Oz) iz).toInt64) (((Oz iz).toInt64) - (lN (Kz 2 wz)))) dL_follows_595 rfl ?_
                  refine ce_if_neC (tgt := 621) dL_follows_596 (by decide) rfl (fun c_596 => ?_) (fun c_596 => ?_)
                  · exact absurd f3 c_596
                  · refine ce_aload_n dL_follows_599 rfl ?_
                    refine kc_Wu dL_follows_600 hL_undo kRL_198 (Nat.le_trans (Nat.sub_le _ _) (iv18).n) (q_undo hcg1 iv18 ks_back.1) rfl rfl (by decide) (Nat.le_of_ble_eq_true rfl) rfl (by show _ ≤ 60; omega) (fun ucg2 hucg2 cs2 cg2 hcg2 => ?_)
                    have iv19 := iv_undo iv18 ks_back.1
                    obtain ⟨hz20, hw21, iv22⟩ := kw_back (K := Kz) (O := Oz) (s := sz) hcg2 iv19 ks_back.2.1 ks_back.2.2
                    refine ce_lconst (v := lN 0) dL_follows_603 (by decide) ?_
                    refine ce_lcmp (z := lg_cmp (lN (ucg2)) (lN (0))) dL_follows_604 rfl ?_
                    refine ce_if_ltL (a := ucg2) (b := 0) (tgt := 621) dL_follows_605 (by decide) rfl (by omega) (by omega) (fun c_605 => ?_) (fun c_605 => ?_)
                    · omega
                    · refine ce_aload_n dL_follows_608 rfl ?_
                      have hqc609 := (m_L_now hw21 iv22)
                      refine kc_Sj (V := nw Kz Oz) dL_follows_609 hL_now kRL_131 hqc609 rfl rfl (by decide) (Nat.le_of_ble_eq_true rfl) rfl (by show _ ≤ 60; omega) ?_
                      refine ce_lload_n dL_follows_612 rfl ?_
                      refine ce_lcmp (z := lg_cmp (nw Kz Oz) (nw Kz Oz)) dL_follows_613 rfl ?_
                      refine ce_if_neC (tgt := 621) dL_follows_614 (by decide) rfl (fun c_614 => ?_) (fun c_614 => ?_)
                      · exact absurd rfl c_614
                      · refine ce_iconst (v := nI (1)) dL_follows_617 (by decide) ?_
                        refine ce_goto (tgt := 622) dL_follows_618 (by decide) ?_
                        refine ce_istore dL_follows_622 (Nat.le_of_ble_eq_true rfl) rfl ?_
                        refine ce_iconst (v := nI (1)) dL_follows_624 (by decide) ?_
                        refine ce_iload_n dL_follows_625 rfl ?_
                        refine ce_bipush (v := nI (36)) dL_follows_626 (by decide) ?_
                        refine ce_idiv (z := nI ((xz) / (36))) dL_follows_628 (nI_ne0 (by omega) (by omega)) (pk_div (by omega) (by omega) (by omega)) ?_
                        refine ce_lload dL_follows_629 rfl ?_
                        refine ce_l2i (v := nI (Kz 9 (iz * 6 + wz))) dL_follows_631 (lN_i _) ?_
                        refine ce_irem (z := nI (((xz) / (36)) % (Kz 9 (iz * 6 + wz)))) dL_follows_632 (nI_ne0 (by omega) (by omega)) (pk_rem (by omega) (by omega) (by omega)) ?_
                        refine ce_iadd (z := nI (1 + (((xz) / (36)) % (Kz 9 (iz * 6 + wz))))) dL_follows_633 (nI_add _ _) ?_
                        obtain ⟨nz, hnz⟩ : ∃ nz, nz = 1 + (((xz) / (36)) % (Kz 9 (iz * 6 + wz))) := ⟨_, rfl⟩
                        have hmo : xz / 36 % Kz 9 (iz * 6 + wz) < Kz 9 (iz * 6 + wz) := Nat.mod_lt _ (by omega)
                        have hn9 : 1 ≤ nz ∧ nz ≤ Kz 9 (iz * 6 + wz) := by omega
                        rw [← hnz]
                        refine ce_istore dL_follows_634 (Nat.le_of_ble_eq_true rfl) rfl ?_
                        refine ce_drop (L' := [some (.ref (a)), some (.int (nI (xz))), some (.long (nw Kz Oz)), none, some (.int (nI (Kz 0 0))), some (.int (nI (Kz 0 1))), some (.long (lN (ce_sum (Kz 9) 36))), none, some (.int (nI (1))), some (.int (nI (iz))), some (.int (nI (wz))), some (.long (lN (Kz 2 wz))), none, some (.long (lN (Kz 9 (iz * 6 + wz)))), none, none, none, none, none, none, none, some (.int (nI (nz))), none]) (ce_le_s rfl (ce_le_s rfl (ce_le_s rfl (ce_le_n (ce_le_s rfl (ce_le_s rfl (ce_le_s rfl (ce_le_n (ce_le_s rfl (ce_le_s rfl (ce_le_s rfl (ce_le_s rfl (ce_le_n (ce_le_s rfl (ce_le_n (ce_le_n (ce_le_n (ce_le_n (ce_le_n (ce_le_n (ce_le_n (ce_le_s rfl (ce_le_n ce_le_e))))))))))))))))))))))) ?_
                        exact fo_4b hx hi hwz hn9 kk hw21 iv22 rfl rfl (by omega)
                · omega
        · omega
      · have hif : (if 0 < Kz 4 wz then 1 else 0) = 1 := if_pos hR
        have h9 := q_cor hw iv (m := iz) (w := wz) hi hwz hown
        have e9 : (if 0 < sK (SS Kz Oz hz sz) 4 wz then 1 else 0) = 1 := hif
        rw [e9] at h9
        have f1 : kv_cor Kz iz wz 9 (iz * 6 + wz) = Kz 9 (iz * 6 + wz) := fm_cor9.trans (if_pos hR)
        have f2 : kv_cor Kz iz wz 4 wz = Kz 4 wz - 1 := fm_cor4.trans (if_pos hR)
        have f3 := fm_coro (m := iz) (w := wz) hk hj (by omega)
        rw [if_pos hR] at f3
        refine ce_aload_n dL_follows_508 rfl ?_
        refine ce_iload dL_follows_509 rfl ?_
        refine ce_iload dL_follows_511 rfl ?_
        refine kc_Wk (V := lN (1)) dL_follows_513 hL_cork kRL_154 h9 rfl rfl (by decide) (Nat.le_of_ble_eq_true rfl) rfl (by show _ ≤ 60; omega) (fun cs1 cg1 hcg1 => ?_)
        have iv23 := iv_cor iv (m := iz) (w := wz) (by show iz < Kz 0 0; omega) (by show wz < Kz 0 1; omega) hown
        have hM5 : (kv_cor Kz iz wz) 0 0 = Kz 0 0 := kv_cor_ne (by decide)
        have hW5 : (kv_cor Kz iz wz) 0 1 = Kz 0 1 := kv_cor_ne (by decide)
        refine ce_lstore dL_follows_516 (Nat.le_of_ble_eq_true rfl) rfl ?_
        refine ce_lload dL_follows_518 rfl ?_
        refine ce_lload dL_follows_520 rfl ?_
        refine ce_lconst (v := lN 0) dL_follows_522 (by decide) ?_
        refine ce_lcmp (z := lg_cmp (lN (Kz 4 wz)) (lN (0))) dL_follows_523 rfl ?_
        refine ce_if_leL (a := Kz 4 wz) (b := 0) (tgt := 531) dL_follows_524 (by decide) rfl (by omega) (by omega) (fun c_524 => ?_) (fun c_524 => ?_)
        · omega
        · refine ce_lconst (v := lN 1) dL_follows_527 (by decide) ?_
          refine ce_goto (tgt := 532) dL_follows_528 (by decide) ?_
          refine ce_lcmp (z := lg_cmp (lN (1)) (lN (1))) dL_follows_532 rfl ?_
          refine ce_if_neL (a := 1) (b := 1) (tgt := 621) dL_follows_533 (by decide) rfl (by omega) (by omega) (fun c_533 => ?_) (fun c_533 => ?_)
          · omega
          · refine ce_aload_n dL_follows_536 rfl ?_
            refine ce_iload dL_follows_537 rfl ?_
            refine ce_iload dL_follows_539 rfl ?_
            refine ce_iconst (v := nI (2)) dL_follows_541 (by decide) ?_
            have hqc542 := (q_has2 hcg1 iv23 (m := iz) (w := wz) (by show iz < (kv_cor Kz iz wz) 0 0; omega) (by show wz < (kv_cor Kz iz wz) 0 1; omega))
            refine kc_Wj (V := lN ((kv_cor Kz iz wz) 9 (iz * 6 + wz))) dL_follows_542 hL_has kRL_122 hqc542 rfl rfl (by decide) (Nat.le_of_ble_eq_true rfl) rfl (by show _ ≤ 60; omega) ?_
            refine ce_lload dL_follows_545 rfl ?_
            refine ce_lconst (v := lN 1) dL_follows_547 (by decide) ?_
            refine ce_lsub (z := lN (Kz 9 (iz * 6 + wz) - (1))) dL_follows_548 (lN_sub (by omega)) ?_
            refine ce_lload dL_follows_549 rfl ?_
            refine ce_ladd (z := lN (Kz 9 (iz * 6 + wz) - (1) + (1))) dL_follows_551 (lN_add _ _) ?_
            refine ce_lcmp (z := lg_cmp (lN ((kv_cor Kz iz wz) 9 (iz * 6 + wz))) (lN (Kz 9 (iz * 6 + wz) - (1) + (1)))) dL_follows_552 rfl ?_
            refine ce_if_neL (a := (kv_cor Kz iz wz) 9 (iz * 6 + wz)) (b := Kz 9 (iz * 6 + wz) - (1) + (1)) (tgt := 621) dL_follows_553 (by decide) rfl (by omega) (by omega) (fun c_553 => ?_) (fun c_553 => ?_)
            · omega
            · refine ce_aload_n dL_follows_556 rfl ?_
              refine ce_iload dL_follows_557 rfl ?_
              refine ce_iconst (v := nI (2)) dL_follows_559 (by decide) ?_
              have hqc560 := (q_wine2 hcg1 iv23 (w := wz) (by show wz < (kv_cor Kz iz wz) 0 1; omega))
              refine kc_Wj (V := lN ((kv_cor Kz iz wz) 4 wz)) dL_follows_560 hL_wine kRL_127 hqc560 rfl rfl (by decide) (Nat.le_of_ble_eq_true rfl) rfl (by show _ ≤ 60; omega) ?_
              refine ce_lload dL_follows_563 rfl ?_
              refine ce_lload dL_follows_565 rfl ?_
              refine ce_lsub (z := lN (Kz 4 wz - (1))) dL_follows_567 (lN_sub (by omega)) ?_
              refine ce_lcmp (z := lg_cmp (lN ((kv_cor Kz iz wz) 4 wz)) (lN (Kz 4 wz - (1)))) dL_follows_568 rfl ?_
              refine ce_if_neL (a := (kv_cor Kz iz wz) 4 wz) (b := Kz 4 wz - (1)) (tgt := 621) dL_follows_569 (by decide) rfl (by omega) (by omega) (fun c_569 => ?_) (fun c_569 => ?_)
              · omega
              · refine ce_aload_n dL_follows_572 rfl ?_
                refine ce_iload dL_follows_573 rfl ?_
                refine ce_iconst (v := nI (1)) dL_follows_575 (by decide) ?_
                have hqc576 := (q_member1 hcg1 iv23 (m := iz) (by show iz < (kv_cor Kz iz wz) 0 0; omega))
                refine kc_Wj (V := ((ko_cor Kz iz wz Oz) iz).toInt64) dL_follows_576 hL_member kRL_117 hqc576 rfl rfl (by decide) (Nat.le_of_ble_eq_true rfl) rfl (by show _ ≤ 60; omega) ?_
                refine ce_lload dL_follows_579 rfl ?_
                refine ce_lload dL_follows_581 rfl ?_
                refine ce_lconst (v := lN 1) dL_follows_583 (by decide) ?_
                refine ce_lcmp (z := lg_cmp (lN (1)) (lN (1))) dL_follows_584 rfl ?_
                refine ce_if_neL (a := 1) (b := 1) (tgt := 592) dL_follows_585 (by decide) rfl (by omega) (by omega) (fun c_585 => ?_) (fun c_585 => ?_)
                · omega
                · refine ce_lconst (v := lN 0) dL_follows_588 (by decide) ?_
                  refine ce_goto (tgt := 594) dL_follows_589 (by decide) ?_
                  refine ce_lsub (z := ((Oz iz).toInt64) - (lN (0))) dL_follows_594 rfl ?_
                  refine ce_lcmp (z := lg_cmp (((ko_cor Kz iz wz Oz) iz).toInt64) (((Oz iz).toInt64) - (lN (0)))) dL_follows_595 rfl ?_
                  refine ce_if_neC (tgt := 621) dL_follows_596 (by decide) rfl (fun c_596 => ?_) (fun c_596 => ?_)
                  · exact absurd f3 c_596
                  · refine ce_aload_n dL_follows_599 rfl ?_
                    refine kc_Wu dL_follows_600 hL_undo kRL_198 (Nat.le_trans (Nat.sub_le _ _) (iv23).n) (q_undo hcg1 iv23 ks_back.1) rfl rfl (by decide) (Nat.le_of_ble_eq_true rfl) rfl (by show _ ≤ 60; omega) (fun ucg2 hucg2 cs2 cg2 hcg2 => ?_)
                    have iv24 := iv_undo iv23 ks_back.1
                    obtain ⟨hz25, hw26, iv27⟩ := kw_back (K := Kz) (O := Oz) (s := sz) hcg2 iv24 ks_back.2.1 ks_back.2.2
                    refine ce_lconst (v := lN 0) dL_follows_603 (by decide) ?_
                    refine ce_lcmp (z := lg_cmp (lN (ucg2)) (lN (0))) dL_follows_604 rfl ?_
                    refine ce_if_ltL (a := ucg2) (b := 0) (tgt := 621) dL_follows_605 (by decide) rfl (by omega) (by omega) (fun c_605 => ?_) (fun c_605 => ?_)
                    · omega
                    · refine ce_aload_n dL_follows_608 rfl ?_
                      have hqc609 := (m_L_now hw26 iv27)
                      refine kc_Sj (V := nw Kz Oz) dL_follows_609 hL_now kRL_131 hqc609 rfl rfl (by decide) (Nat.le_of_ble_eq_true rfl) rfl (by show _ ≤ 60; omega) ?_
                      refine ce_lload_n dL_follows_612 rfl ?_
                      refine ce_lcmp (z := lg_cmp (nw Kz Oz) (nw Kz Oz)) dL_follows_613 rfl ?_
                      refine ce_if_neC (tgt := 621) dL_follows_614 (by decide) rfl (fun c_614 => ?_) (fun c_614 => ?_)
                      · exact absurd rfl c_614
                      · refine ce_iconst (v := nI (1)) dL_follows_617 (by decide) ?_
                        refine ce_goto (tgt := 622) dL_follows_618 (by decide) ?_
                        refine ce_istore dL_follows_622 (Nat.le_of_ble_eq_true rfl) rfl ?_
                        refine ce_iconst (v := nI (1)) dL_follows_624 (by decide) ?_
                        refine ce_iload_n dL_follows_625 rfl ?_
                        refine ce_bipush (v := nI (36)) dL_follows_626 (by decide) ?_
                        refine ce_idiv (z := nI ((xz) / (36))) dL_follows_628 (nI_ne0 (by omega) (by omega)) (pk_div (by omega) (by omega) (by omega)) ?_
                        refine ce_lload dL_follows_629 rfl ?_
                        refine ce_l2i (v := nI (Kz 9 (iz * 6 + wz))) dL_follows_631 (lN_i _) ?_
                        refine ce_irem (z := nI (((xz) / (36)) % (Kz 9 (iz * 6 + wz)))) dL_follows_632 (nI_ne0 (by omega) (by omega)) (pk_rem (by omega) (by omega) (by omega)) ?_
                        refine ce_iadd (z := nI (1 + (((xz) / (36)) % (Kz 9 (iz * 6 + wz))))) dL_follows_633 (nI_add _ _) ?_
                        obtain ⟨nz, hnz⟩ : ∃ nz, nz = 1 + (((xz) / (36)) % (Kz 9 (iz * 6 + wz))) := ⟨_, rfl⟩
                        have hmo : xz / 36 % Kz 9 (iz * 6 + wz) < Kz 9 (iz * 6 + wz) := Nat.mod_lt _ (by omega)
                        have hn9 : 1 ≤ nz ∧ nz ≤ Kz 9 (iz * 6 + wz) := by omega
                        rw [← hnz]
                        refine ce_istore dL_follows_634 (Nat.le_of_ble_eq_true rfl) rfl ?_
                        refine ce_drop (L' := [some (.ref (a)), some (.int (nI (xz))), some (.long (nw Kz Oz)), none, some (.int (nI (Kz 0 0))), some (.int (nI (Kz 0 1))), some (.long (lN (ce_sum (Kz 9) 36))), none, some (.int (nI (1))), some (.int (nI (iz))), some (.int (nI (wz))), some (.long (lN (Kz 2 wz))), none, some (.long (lN (Kz 9 (iz * 6 + wz)))), none, none, none, none, none, none, none, some (.int (nI (nz))), none]) (ce_le_s rfl (ce_le_s rfl (ce_le_s rfl (ce_le_n (ce_le_s rfl (ce_le_s rfl (ce_le_s rfl (ce_le_n (ce_le_s rfl (ce_le_s rfl (ce_le_s rfl (ce_le_s rfl (ce_le_n (ce_le_s rfl (ce_le_n (ce_le_n (ce_le_n (ce_le_n (ce_le_n (ce_le_n (ce_le_n (ce_le_s rfl (ce_le_n ce_le_e))))))))))))))))))))))) ?_
                        exact fo_4b hx hi hwz hn9 kk hw26 iv27 rfl rfl (by omega)
