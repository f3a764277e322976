set_option maxHeartbeats 2000000 in
set_option maxRecDepth 20000 in
theorem m_X8_readPart0 {σ : ce_S} {g0 g : ce_D} (d len p : Nat) (T : Nat → Nat) (hD : ce_LM σ d) (h120 : len ≤ 120) (hp9 : p ≤ 1000) (hch : ∀ i, i < len → g0 (d + 1) i = nI (T i)) (hT : ∀ i, i < len → T i < 256) (K : ce_V) (hk : kv_cl K) (h : kr_st g0 g d len p 1 (kq K)) (hpl : p < len)  (c0 : T p = 109) : ce_CT (ce_r 3) mX8_readPart [.ref (d)] σ g (ce_uv σ (fun g1 => kr_st g0 g1 d len (kx_part T len K p).2.2 (if (kx_part T len K p).1 = true then 1 else 0) (kq (kx_part T len K p).2.1))) ce_no := by
  have hB := hk.i7
  have hM := hk.me
  have hW := hk.wi
  have e0 : kq K 0 = K 0 := kq_ne (by decide)
  have hM2 : kq K 0 0 ≤ 6 := by rw [e0]; exact hM
  have hW2 : kq K 0 1 ≤ 6 := by rw [e0]; exact hW
  have hB2 : kq K 0 2 ≤ 8 := by rw [e0]; exact hB
  have ee0 : kq K 0 0 = K 0 0 := by rw [e0]
  have ee1 : kq K 0 1 = K 0 1 := by rw [e0]
  have ee2 : kq K 0 2 = K 0 2 := by rw [e0]
  have hTp := hT p hpl
  refine ce_enter (by decide) rfl (Nat.le_of_ble_eq_true rfl) (L := [some (.ref (d)), none, none, none]) rfl ?_
  refine ce_aload_n dX8_readPart_0 rfl ?_
  refine ce_bipush (v := nI (109)) dX8_readPart_1 (by decide) ?_
  refine ce_cVp dX8_readPart_3 hX8_isNext kRX8_135 (m_X8_isNext d len (p) (kq K) T hD h120 (by omega) hch hT 1 h (109) (by decide)) rfl rfl hD.1 rfl (by decide) (Nat.le_of_ble_eq_true rfl) ?_
  refine ce_if_eqB (tgt := 68) dX8_readPart_6 (by decide) rfl (fun c_6 => ?_) (fun c_6 => ?_)
  · omega
  · refine ce_aload_n dX8_readPart_9 rfl ?_
    refine ce_aload_n dX8_readPart_10 rfl ?_
    refine ce_getR dX8_readPart_11 fRX8_13 hD.1 hD.2.1.2.1 ?_
    refine ce_iconst (v := nI (0)) dX8_readPart_14 (by decide) ?_
    refine ce_ialdv dX8_readPart_15 (hD.2.2.2.1).1 rfl (hD.2.2.2.1).2 (by omega) (by decide) (((h).2.2.2.1).c0) ?_
    refine ce_bipush (v := nI (6)) dX8_readPart_16 (by decide) ?_
    refine ce_icmp_geN (tgt := 25) dX8_readPart_18 (by decide) rfl rfl (by omega) (by omega) (fun c_18 => ?_) (fun c_18 => ?_)
    · refine ce_iconst (v := nI (0)) dX8_readPart_25 (by decide) ?_
      refine ce_cVu dX8_readPart_26 hX8_accept kRX8_128 (m_X8_accept10 d len (p) (kq K) T hD h120 (by omega) hch hT h) rfl rfl hD.1 rfl (by decide) (Nat.le_of_ble_eq_true rfl) (fun cg1 hcg1 => ?_)
      refine ce_aload_n dX8_readPart_29 rfl ?_
      refine ce_iconst (v := nI (0)) dX8_readPart_30 (by decide) ?_
      refine ce_bipush (v := nI (9)) dX8_readPart_31 (by decide) ?_
      refine ce_cVr dX8_readPart_33 hX8_digit kRX8_132 (m_X8_digitF d len (p + 0) (kq K) T hD h120 (by omega) hch hT hcg1 (nI (0)) (nI (9))) rfl rfl hD.1 rfl (by decide) (Nat.le_of_ble_eq_true rfl) (fun rcg2 cg2 hcg2 => ?_)
      have ecg2 := hcg2.1
      subst ecg2
      refine ce_istore_n dX8_readPart_36 (Nat.le_of_ble_eq_true rfl) rfl ?_
      refine ce_bipush (v := nI (100)) dX8_readPart_37 (by decide) ?_
      refine ce_iload_n dX8_readPart_39 rfl ?_
      refine ce_imul (z := nI (0)) dX8_readPart_40 (pk_mul _ _) ?_
      refine ce_aload_n dX8_readPart_41 rfl ?_
      refine ce_iconst (v := nI (0)) dX8_readPart_42 (by decide) ?_
      refine ce_bipush (v := nI (99)) dX8_readPart_43 (by decide) ?_
      refine ce_cVr dX8_readPart_45 hX8_two kRX8_138 (m_X8_twoF d len (p + 0 + 0) (kq K) T hD h120 (by omega) hch hT hcg2.2 (0) (99) (by decide) (by decide)) rfl rfl hD.1 rfl (by decide) (Nat.le_of_ble_eq_true rfl) (fun rcg3 cg3 hcg3 => ?_)
      refine ce_iadd (z := (nI (0)) + (rcg3)) dX8_readPart_48 rfl ?_
      refine ce_istore_n dX8_readPart_49 (Nat.le_of_ble_eq_true rfl) rfl ?_
      refine ce_aload_n dX8_readPart_50 rfl ?_
      refine ce_getIv dX8_readPart_51 fRX8_122 hD.1 (hcg3).2.2.1 ?_
      refine ce_if_eqN (tgt := 65) dX8_readPart_54 (by decide) rfl (by omega) (fun c_54 => ?_) (fun c_54 => ?_)
      · refine ce_goto (tgt := 277) dX8_readPart_65 (by decide) ?_
        have e : kx_part T len K p = (false, K, p + 0 + 0 + 0 + 0) := by
          unfold kx_part
          rw [if_pos c0]
          unfold kx_pm
          rw [if_pos (by omega)] <;> rfl
        rw [e]
        exact ce_vret dX8_readPart_277 rfl (by decide) (by decide) ⟨rfl, rfl, hcg3⟩
      · omega
    · refine ce_iconst (v := nI (1)) dX8_readPart_21 (by decide) ?_
      refine ce_goto (tgt := 26) dX8_readPart_22 (by decide) ?_
      refine ce_cVu dX8_readPart_26 hX8_accept kRX8_128 (m_X8_accept11 d len (p) (kq K) T hD h120 (by omega) hch hT h) rfl rfl hD.1 rfl (by decide) (Nat.le_of_ble_eq_true rfl) (fun cg1 hcg1 => ?_)
      refine ce_aload_n dX8_readPart_29 rfl ?_
      refine ce_iconst (v := nI (0)) dX8_readPart_30 (by decide) ?_
      refine ce_bipush (v := nI (9)) dX8_readPart_31 (by decide) ?_
      by_cases ok0 : kr_ok T len (0) (9) (p + 1)
      · have hTk0 := hT (p + 1)
        have okq0 := ok0.2.2
        have okr0 := ok0.1
        refine ce_cVr dX8_readPart_33 hX8_digit kRX8_132 (m_X8_digitY d len (p + 1) (kq K) T hD h120 (by omega) hch hT hcg1 (0) (9) (by omega) (by omega) ok0) rfl rfl hD.1 rfl (by decide) (Nat.le_of_ble_eq_true rfl) (fun rcg2 cg2 hcg2 => ?_)
        have ecg2 := hcg2.1
        subst ecg2
        refine ce_istore_n dX8_readPart_36 (Nat.le_of_ble_eq_true rfl) rfl ?_
        refine ce_bipush (v := nI (100)) dX8_readPart_37 (by decide) ?_
        refine ce_iload_n dX8_readPart_39 rfl ?_
        refine ce_imul (z := nI ((100) * (T (p + 1) - 48))) dX8_readPart_40 (pk_mul _ _) ?_
        refine ce_aload_n dX8_readPart_41 rfl ?_
        refine ce_iconst (v := nI (0)) dX8_readPart_42 (by decide) ?_
        refine ce_bipush (v := nI (99)) dX8_readPart_43 (by decide) ?_
        rcases kn1 : kx_num T len (0) (99) [10, 1] 0 (p + 1 + 1) with ⟨_ | n1, u1⟩
        · have l1 := kx_num_q kn1
          refine ce_cVr dX8_readPart_45 hX8_two kRX8_138 (m_X8_twoT d len (p + 1 + 1) (kq K) T hD h120 (by omega) hch hT hcg2.2 (0) (99) (by decide) (by decide)) rfl rfl hD.1 rfl (by decide) (Nat.le_of_ble_eq_true rfl) (fun rcg3 cg3 hcg3 => ?_)
          rw [kn1] at hcg3
          have wcg3 : kr_st g0 cg3 d len u1 0 (kq K) := hcg3.2 rfl
          refine ce_iadd (z := (nI ((100) * (T (p + 1) - 48))) + (rcg3)) dX8_readPart_48 rfl ?_
          refine ce_istore_n dX8_readPart_49 (Nat.le_of_ble_eq_true rfl) rfl ?_
          refine ce_aload_n dX8_readPart_50 rfl ?_
          refine ce_getIv dX8_readPart_51 fRX8_122 hD.1 (wcg3).2.2.1 ?_
          refine ce_if_eqN (tgt := 65) dX8_readPart_54 (by decide) rfl (by omega) (fun c_54 => ?_) (fun c_54 => ?_)
          · refine ce_goto (tgt := 277) dX8_readPart_65 (by decide) ?_
            have e : kx_part T len K p = (false, K, u1) := by
              unfold kx_part
              rw [if_pos c0]
              unfold kx_pm
              rw [if_neg (by omega)]
              rw [kx3_y ok0]
              try dsimp only
              rw [kn1] <;> rfl
            rw [e]
            exact ce_vret dX8_readPart_277 rfl (by decide) (by decide) ⟨rfl, rfl, wcg3⟩
          · omega
        · have l1 := kx_num_le2 kn1
          refine ce_cVr dX8_readPart_45 hX8_two kRX8_138 (m_X8_twoT d len (p + 1 + 1) (kq K) T hD h120 (by omega) hch hT hcg2.2 (0) (99) (by decide) (by decide)) rfl rfl hD.1 rfl (by decide) (Nat.le_of_ble_eq_true rfl) (fun rcg3 cg3 hcg3 => ?_)
          rw [kn1] at hcg3
          obtain ⟨ecg3, wcg3⟩ := hcg3.1 n1 rfl
          subst ecg3
          have wcg3 : kr_st g0 cg3 d len u1 1 (kq K) := wcg3
          refine ce_iadd (z := nI ((100) * (T (p + 1) - 48) + n1)) dX8_readPart_48 (nI_add _ _) ?_
          refine ce_istore_n dX8_readPart_49 (Nat.le_of_ble_eq_true rfl) rfl ?_
          refine ce_aload_n dX8_readPart_50 rfl ?_
          refine ce_getIv dX8_readPart_51 fRX8_122 hD.1 (wcg3).2.2.1 ?_
          refine ce_if_eqN (tgt := 65) dX8_readPart_54 (by decide) rfl (by omega) (fun c_54 => ?_) (fun c_54 => ?_)
          · omega
          · refine ce_aload_n dX8_readPart_57 rfl ?_
            refine ce_getR dX8_readPart_58 fRX8_13 hD.1 hD.2.1.2.1 ?_
            refine ce_iload_n dX8_readPart_61 rfl ?_
            refine ce_cSu dX8_readPart_62 hX8_addMemberTo kRX8_141 (m_X8_addMemberTo (d + 2) (kq K) (fun _ => 0) ⟨(hD.2.2.2.1).1, (hD.2.2.2.1).2⟩ wcg3.2.2.2.1 ((100) * (T (p + 1) - 48) + n1) (by omega)) rfl rfl (by decide) (Nat.le_of_ble_eq_true rfl) (fun cg4 hcg4 => ?_)
            have wcg4 := wcg3.r (kq_enr ▸ hcg4.1) hcg4.2
            refine ce_goto (tgt := 277) dX8_readPart_65 (by decide) ?_
            have e : kx_part T len K p = (true, kv_enr K ((100) * (T (p + 1) - 48) + n1), u1) := by
              unfold kx_part
              rw [if_pos c0]
              unfold kx_pm
              rw [if_neg (by omega)]
              rw [kx3_y ok0]
              try dsimp only
              rw [kn1] <;> rfl
            rw [e]
            exact ce_vret dX8_readPart_277 rfl (by decide) (by decide) ⟨rfl, rfl, wcg4⟩
      · have hTk0 := hT (p + 1)
        refine ce_cVr dX8_readPart_33 hX8_digit kRX8_132 (m_X8_digitN d len (p + 1) (kq K) T hD h120 (by omega) hch hT hcg1 (0) (9) (by omega) (by omega) ok0) rfl rfl hD.1 rfl (by decide) (Nat.le_of_ble_eq_true rfl) (fun rcg2 cg2 hcg2 => ?_)
        have ecg2 := hcg2.1
        subst ecg2
        refine ce_istore_n dX8_readPart_36 (Nat.le_of_ble_eq_true rfl) rfl ?_
        refine ce_bipush (v := nI (100)) dX8_readPart_37 (by decide) ?_
        refine ce_iload_n dX8_readPart_39 rfl ?_
        refine ce_imul (z := nI (0)) dX8_readPart_40 (pk_mul _ _) ?_
        refine ce_aload_n dX8_readPart_41 rfl ?_
        refine ce_iconst (v := nI (0)) dX8_readPart_42 (by decide) ?_
        refine ce_bipush (v := nI (99)) dX8_readPart_43 (by decide) ?_
        refine ce_cVr dX8_readPart_45 hX8_two kRX8_138 (m_X8_twoF d len (p + 1 + 0) (kq K) T hD h120 (by omega) hch hT hcg2.2 (0) (99) (by decide) (by decide)) rfl rfl hD.1 rfl (by decide) (Nat.le_of_ble_eq_true rfl) (fun rcg3 cg3 hcg3 => ?_)
        refine ce_iadd (z := (nI (0)) + (rcg3)) dX8_readPart_48 rfl ?_
        refine ce_istore_n dX8_readPart_49 (Nat.le_of_ble_eq_true rfl) rfl ?_
        refine ce_aload_n dX8_readPart_50 rfl ?_
        refine ce_getIv dX8_readPart_51 fRX8_122 hD.1 (hcg3).2.2.1 ?_
        refine ce_if_eqN (tgt := 65) dX8_readPart_54 (by decide) rfl (by omega) (fun c_54 => ?_) (fun c_54 => ?_)
        · refine ce_goto (tgt := 277) dX8_readPart_65 (by decide) ?_
          have e : kx_part T len K p = (false, K, p + 1 + 0 + 0 + 0) := by
            unfold kx_part
            rw [if_pos c0]
            unfold kx_pm
            rw [if_neg (by omega)]
            rw [kx3_n ok0] <;> rfl
          rw [e]
          exact ce_vret dX8_readPart_277 rfl (by decide) (by decide) ⟨rfl, rfl, hcg3⟩
        · omega
set_option maxHeartbeats 2000000 in
set_option maxRecDepth 20000 in
theorem m_X8_readPart1 {σ : ce_S} {g0 g : ce_D} (d len p : Nat) (T : Nat → Nat) (hD : ce_LM σ d) (h120 : len ≤ 120) (hp9 : p ≤ 1000) (hch : ∀ i, i < len → g0 (d + 1) i = nI (T i)) (hT : ∀ i, i < len → T i < 256) (K : ce_V) (hk : kv_cl K) (h : kr_st g0 g d len p 1 (kq K)) (hpl : p < len) (c0 : ¬ T p = 109) (c1 : T p = 119) : ce_CT (ce_r 3) mX8_readPart [.ref (d)] σ g (ce_uv σ (fun g1 => kr_st g0 g1 d len (kx_part T len K p).2.2 (if (kx_part T len K p).1 = true then 1 else 0) (kq (kx_part T len K p).2.1))) ce_no := by
  have hB := hk.i7
  have hM := hk.me
  have hW := hk.wi
  have e0 : kq K 0 = K 0 := kq_ne (by decide)
  have hM2 : kq K 0 0 ≤ 6 := by rw [e0]; exact hM
  have hW2 : kq K 0 1 ≤ 6 := by rw [e0]; exact hW
  have hB2 : kq K 0 2 ≤ 8 := by rw [e0]; exact hB
  have ee0 : kq K 0 0 = K 0 0 := by rw [e0]
  have ee1 : kq K 0 1 = K 0 1 := by rw [e0]
  have ee2 : kq K 0 2 = K 0 2 := by rw [e0]
  have hTp := hT p hpl
  refine ce_enter (by decide) rfl (Nat.le_of_ble_eq_true rfl) (L := [some (.ref (d)), none, none, none]) rfl ?_
  refine ce_aload_n dX8_readPart_0 rfl ?_
  refine ce_bipush (v := nI (109)) dX8_readPart_1 (by decide) ?_
  refine ce_cVp dX8_readPart_3 hX8_isNext kRX8_135 (m_X8_isNext d len (p) (kq K) T hD h120 (by omega) hch hT 1 h (109) (by decide)) rfl rfl hD.1 rfl (by decide) (Nat.le_of_ble_eq_true rfl) ?_
  refine ce_if_eqB (tgt := 68) dX8_readPart_6 (by decide) rfl (fun c_6 => ?_) (fun c_6 => ?_)
  · refine ce_aload_n dX8_readPart_68 rfl ?_
    refine ce_bipush (v := nI (119)) dX8_readPart_69 (by decide) ?_
    refine ce_cVp dX8_readPart_71 hX8_isNext kRX8_135 (m_X8_isNext d len (p) (kq K) T hD h120 (by omega) hch hT 1 h (119) (by decide)) rfl rfl hD.1 rfl (by decide) (Nat.le_of_ble_eq_true rfl) ?_
    refine ce_if_eqB (tgt := 132) dX8_readPart_74 (by decide) rfl (fun c_74 => ?_) (fun c_74 => ?_)
    · omega
    · refine ce_aload_n dX8_readPart_77 rfl ?_
      refine ce_aload_n dX8_readPart_78 rfl ?_
      refine ce_getR dX8_readPart_79 fRX8_13 hD.1 hD.2.1.2.1 ?_
      refine ce_iconst (v := nI (1)) dX8_readPart_82 (by decide) ?_
      refine ce_ialdv dX8_readPart_83 (hD.2.2.2.1).1 rfl (hD.2.2.2.1).2 (by omega) (by decide) (((h).2.2.2.1).c1) ?_
      refine ce_bipush (v := nI (6)) dX8_readPart_84 (by decide) ?_
      refine ce_icmp_geN (tgt := 93) dX8_readPart_86 (by decide) rfl rfl (by omega) (by omega) (fun c_86 => ?_) (fun c_86 => ?_)
      · refine ce_iconst (v := nI (0)) dX8_readPart_93 (by decide) ?_
        refine ce_cVu dX8_readPart_94 hX8_accept kRX8_128 (m_X8_accept10 d len (p) (kq K) T hD h120 (by omega) hch hT h) rfl rfl hD.1 rfl (by decide) (Nat.le_of_ble_eq_true rfl) (fun cg1 hcg1 => ?_)
        refine ce_aload_n dX8_readPart_97 rfl ?_
        refine ce_iconst (v := nI (1)) dX8_readPart_98 (by decide) ?_
        refine ce_bipush (v := nI (99)) dX8_readPart_99 (by decide) ?_
        refine ce_cVr dX8_readPart_101 hX8_two kRX8_138 (m_X8_twoF d len (p + 0) (kq K) T hD h120 (by omega) hch hT hcg1 (1) (99) (by decide) (by decide)) rfl rfl hD.1 rfl (by decide) (Nat.le_of_ble_eq_true rfl) (fun rcg2 cg2 hcg2 => ?_)
        refine ce_istore_n dX8_readPart_104 (Nat.le_of_ble_eq_true rfl) rfl ?_
        refine ce_aload_n dX8_readPart_105 rfl ?_
        refine ce_iconst (v := nI (0)) dX8_readPart_106 (by decide) ?_
        refine ce_bipush (v := nI (60)) dX8_readPart_107 (by decide) ?_
        refine ce_cVr dX8_readPart_109 hX8_two kRX8_138 (m_X8_twoF d len (p + 0 + 0 + 0) (kq K) T hD h120 (by omega) hch hT hcg2 (0) (60) (by decide) (by decide)) rfl rfl hD.1 rfl (by decide) (Nat.le_of_ble_eq_true rfl) (fun rcg3 cg3 hcg3 => ?_)
        refine ce_istore_n dX8_readPart_112 (Nat.le_of_ble_eq_true rfl) rfl ?_
        refine ce_aload_n dX8_readPart_113 rfl ?_
        refine ce_getIv dX8_readPart_114 fRX8_122 hD.1 (hcg3).2.2.1 ?_
        refine ce_if_eqN (tgt := 129) dX8_readPart_117 (by decide) rfl (by omega) (fun c_117 => ?_) (fun c_117 => ?_)
        · refine ce_goto (tgt := 277) dX8_readPart_129 (by decide) ?_
          have e : kx_part T len K p = (false, K, p + 0 + 0 + 0 + 0 + 0) := by
            unfold kx_part
            rw [if_neg c0, if_pos c1]
            unfold kx_pw
            rw [if_pos (by omega)] <;> rfl
          rw [e]
          exact ce_vret dX8_readPart_277 rfl (by decide) (by decide) ⟨rfl, rfl, hcg3⟩
        · omega
      · refine ce_iconst (v := nI (1)) dX8_readPart_89 (by decide) ?_
        refine ce_goto (tgt := 94) dX8_readPart_90 (by decide) ?_
        refine ce_cVu dX8_readPart_94 hX8_accept kRX8_128 (m_X8_accept11 d len (p) (kq K) T hD h120 (by omega) hch hT h) rfl rfl hD.1 rfl (by decide) (Nat.le_of_ble_eq_true rfl) (fun cg1 hcg1 => ?_)
        refine ce_aload_n dX8_readPart_97 rfl ?_
        refine ce_iconst (v := nI (1)) dX8_readPart_98 (by decide) ?_
        refine ce_bipush (v := nI (99)) dX8_readPart_99 (by decide) ?_
        rcases kn0 : kx_num T len (1) (99) [10, 1] 0 (p + 1) with ⟨_ | n0, u0⟩
        · have l0 := kx_num_q kn0
          refine ce_cVr dX8_readPart_101 hX8_two kRX8_138 (m_X8_twoT d len (p + 1) (kq K) T hD h120 (by omega) hch hT hcg1 (1) (99) (by decide) (by decide)) rfl rfl hD.1 rfl (by decide) (Nat.le_of_ble_eq_true rfl) (fun rcg2 cg2 hcg2 => ?_)
          rw [kn0] at hcg2
          have wcg2 : kr_st g0 cg2 d len u0 0 (kq K) := hcg2.2 rfl
          refine ce_istore_n dX8_readPart_104 (Nat.le_of_ble_eq_true rfl) rfl ?_
          refine ce_aload_n dX8_readPart_105 rfl ?_
          refine ce_iconst (v := nI (0)) dX8_readPart_106 (by decide) ?_
          refine ce_bipush (v := nI (60)) dX8_readPart_107 (by decide) ?_
          refine ce_cVr dX8_readPart_109 hX8_two kRX8_138 (m_X8_twoF d len (u0) (kq K) T hD h120 (by omega) hch hT wcg2 (0) (60) (by decide) (by decide)) rfl rfl hD.1 rfl (by decide) (Nat.le_of_ble_eq_true rfl) (fun rcg3 cg3 hcg3 => ?_)
          refine ce_istore_n dX8_readPart_112 (Nat.le_of_ble_eq_true rfl) rfl ?_
          refine ce_aload_n dX8_readPart_113 rfl ?_
          refine ce_getIv dX8_readPart_114 fRX8_122 hD.1 (hcg3).2.2.1 ?_
          refine ce_if_eqN (tgt := 129) dX8_readPart_117 (by decide) rfl (by omega) (fun c_117 => ?_) (fun c_117 => ?_)
          · refine ce_goto (tgt := 277) dX8_readPart_129 (by decide) ?_
            have e : kx_part T len K p = (false, K, u0 + 0 + 0) := by
              unfold kx_part
              rw [if_neg c0, if_pos c1]
              unfold kx_pw
              rw [if_neg (by omega)]
              rw [kn0] <;> rfl
            rw [e]
            exact ce_vret dX8_readPart_277 rfl (by decide) (by decide) ⟨rfl, rfl, hcg3⟩
          · omega
        · have l0 := kx_num_le2 kn0
          refine ce_cVr dX8_readPart_101 hX8_two kRX8_138 (m_X8_twoT d len (p + 1) (kq K) T hD h120 (by omega) hch hT hcg1 (1) (99) (by decide) (by decide)) rfl rfl hD.1 rfl (by decide) (Nat.le_of_ble_eq_true rfl) (fun rcg2 cg2 hcg2 => ?_)
          rw [kn0] at hcg2
          obtain ⟨ecg2, wcg2⟩ := hcg2.1 n0 rfl
          subst ecg2
          have wcg2 : kr_st g0 cg2 d len u0 1 (kq K) := wcg2
          refine ce_istore_n dX8_readPart_104 (Nat.le_of_ble_eq_true rfl) rfl ?_
          refine ce_aload_n dX8_readPart_105 rfl ?_
          refine ce_iconst (v := nI (0)) dX8_readPart_106 (by decide) ?_
          refine ce_bipush (v := nI (60)) dX8_readPart_107 (by decide) ?_
          rcases kn1 : kx_num T len (0) (60) [10, 1] 0 (u0) with ⟨_ | n1, u1⟩
          · have l1 := kx_num_q kn1
            refine ce_cVr dX8_readPart_109 hX8_two kRX8_138 (m_X8_twoT d len (u0) (kq K) T hD h120 (by omega) hch hT wcg2 (0) (60) (by decide) (by decide)) rfl rfl hD.1 rfl (by decide) (Nat.le_of_ble_eq_true rfl) (fun rcg3 cg3 hcg3 => ?_)
            rw [kn1] at hcg3
            have wcg3 : kr_st g0 cg3 d len u1 0 (kq K) := hcg3.2 rfl
            refine ce_istore_n dX8_readPart_112 (Nat.le_of_ble_eq_true rfl) rfl ?_
            refine ce_aload_n dX8_readPart_113 rfl ?_
            refine ce_getIv dX8_readPart_114 fRX8_122 hD.1 (wcg3).2.2.1 ?_
            refine ce_if_eqN (tgt := 129) dX8_readPart_117 (by decide) rfl (by omega) (fun c_117 => ?_) (fun c_117 => ?_)
            · refine ce_goto (tgt := 277) dX8_readPart_129 (by decide) ?_
              have e : kx_part T len K p = (false, K, u1) := by
                unfold kx_part
                rw [if_neg c0, if_pos c1]
                unfold kx_pw
                rw [if_neg (by omega)]
                rw [kn0]
                try dsimp only
                rw [kn1] <;> rfl
              rw [e]
              exact ce_vret dX8_readPart_277 rfl (by decide) (by decide) ⟨rfl, rfl, wcg3⟩
            · omega
          · have l1 := kx_num_le2 kn1
            refine ce_cVr dX8_readPart_109 hX8_two kRX8_138 (m_X8_twoT d len (u0) (kq K) T hD h120 (by omega) hch hT wcg2 (0) (60) (by decide) (by decide)) rfl rfl hD.1 rfl (by decide) (Nat.le_of_ble_eq_true rfl) (fun rcg3 cg3 hcg3 => ?_)
            rw [kn1] at hcg3
            obtain ⟨ecg3, wcg3⟩ := hcg3.1 n1 rfl
            subst ecg3
            have wcg3 : kr_st g0 cg3 d len u1 1 (kq K) := wcg3
            refine ce_istore_n dX8_readPart_112 (Nat.le_of_ble_eq_true rfl) rfl ?_
            refine ce_aload_n dX8_readPart_113 rfl ?_
            refine ce_getIv dX8_readPart_114 fRX8_122 hD.1 (wcg3).2.2.1 ?_
            refine ce_if_eqN (tgt := 129) dX8_readPart_117 (by decide) rfl (by omega) (fun c_117 => ?_) (fun c_117 => ?_)
            · omega
            · refine ce_aload_n dX8_readPart_120 rfl ?_
              refine ce_getR dX8_readPart_121 fRX8_13 hD.1 hD.2.1.2.1 ?_
              refine ce_iload_n dX8_readPart_124 rfl ?_
              refine ce_iload_n dX8_readPart_125 rfl ?_
              refine ce_cSu dX8_readPart_126 hX8_addWineTo kRX8_145 (m_X8_addWineTo (d + 2) (kq K) (fun _ => 0) ⟨(hD.2.2.2.1).1, (hD.2.2.2.1).2⟩ wcg3.2.2.2.1 (n0) (n1) (by omega)) rfl rfl (by decide) (Nat.le_of_ble_eq_true rfl) (fun cg4 hcg4 => ?_)
              have wcg4 := wcg3.r (kq_off ▸ hcg4.1) hcg4.2
              refine ce_goto (tgt := 277) dX8_readPart_129 (by decide) ?_
              have e : kx_part T len K p = (true, kv_off K (n0) (n1), u1) := by
                unfold kx_part
                rw [if_neg c0, if_pos c1]
                unfold kx_pw
                rw [if_neg (by omega)]
                rw [kn0]
                try dsimp only
                rw [kn1] <;> rfl
              rw [e]
              exact ce_vret dX8_readPart_277 rfl (by decide) (by decide) ⟨rfl, rfl, wcg4⟩
  · omega
set_option maxHeartbeats 2000000 in
set_option maxRecDepth 20000 in
theorem m_X8_readPart2 {σ : ce_S} {g0 g : ce_D} (d len p : Nat) (T : Nat → Nat) (hD : ce_LM σ d) (h120 : len ≤ 120) (hp9 : p ≤ 1000) (hch : ∀ i, i < len → g0 (d + 1) i = nI (T i)) (hT : ∀ i, i < len → T i < 256) (K : ce_V) (hk : kv_cl K) (h : kr_st g0 g d len p 1 (kq K)) (hpl : p < len) (c0 : ¬ T p = 109) (c1 : ¬ T p = 119) (c2 : T p = 98) : ce_CT (ce_r 3) mX8_readPart [.ref (d)] σ g (ce_uv σ (fun g1 => kr_st g0 g1 d len (kx_part T len K p).2.2 (if (kx_part T len K p).1 = true then 1 else 0) (kq (kx_part T len K p).2.1))) ce_no := by
  have hB := hk.i7
  have hM := hk.me
  have hW := hk.wi
  have e0 : kq K 0 = K 0 := kq_ne (by decide)
  have hM2 : kq K 0 0 ≤ 6 := by rw [e0]; exact hM
  have hW2 : kq K 0 1 ≤ 6 := by rw [e0]; exact hW
  have hB2 : kq K 0 2 ≤ 8 := by rw [e0]; exact hB
  have ee0 : kq K 0 0 = K 0 0 := by rw [e0]
  have ee1 : kq K 0 1 = K 0 1 := by rw [e0]
  have ee2 : kq K 0 2 = K 0 2 := by rw [e0]
  have hTp := hT p hpl
  refine ce_enter (by decide) rfl (Nat.le_of_ble_eq_true rfl) (L := [some (.ref (d)), none, none, none]) rfl ?_
  refine ce_aload_n dX8_readPart_0 rfl ?_
  refine ce_bipush (v := nI (109)) dX8_readPart_1 (by decide) ?_
  refine ce_cVp dX8_readPart_3 hX8_isNext kRX8_135 (m_X8_isNext d len (p) (kq K) T hD h120 (by omega) hch hT 1 h (109) (by decide)) rfl rfl hD.1 rfl (by decide) (Nat.le_of_ble_eq_true rfl) ?_
  refine ce_if_eqB (tgt := 68) dX8_readPart_6 (by decide) rfl (fun c_6 => ?_) (fun c_6 => ?_)
  · refine ce_aload_n dX8_readPart_68 rfl ?_
    refine ce_bipush (v := nI (119)) dX8_readPart_69 (by decide) ?_
    refine ce_cVp dX8_readPart_71 hX8_isNext kRX8_135 (m_X8_isNext d len (p) (kq K) T hD h120 (by omega) hch hT 1 h (119) (by decide)) rfl rfl hD.1 rfl (by decide) (Nat.le_of_ble_eq_true rfl) ?_
    refine ce_if_eqB (tgt := 132) dX8_readPart_74 (by decide) rfl (fun c_74 => ?_) (fun c_74 => ?_)
    · refine ce_aload_n dX8_readPart_132 rfl ?_
      refine ce_bipush (v := nI (98)) dX8_readPart_133 (by decide) ?_
      refine ce_cVp dX8_readPart_135 hX8_isNext kRX8_135 (m_X8_isNext d len (p) (kq K) T hD h120 (by omega) hch hT 1 h (98) (by decide)) rfl rfl hD.1 rfl (by decide) (Nat.le_of_ble_eq_true rfl) ?_
      refine ce_if_eqB (tgt := 187) dX8_readPart_138 (by decide) rfl (fun c_138 => ?_) (fun c_138 => ?_)
      · omega
      · refine ce_aload_n dX8_readPart_141 rfl ?_
        refine ce_aload_n dX8_readPart_142 rfl ?_
        refine ce_getR dX8_readPart_143 fRX8_13 hD.1 hD.2.1.2.1 ?_
        refine ce_iconst (v := nI (2)) dX8_readPart_146 (by decide) ?_
        refine ce_ialdv dX8_readPart_147 (hD.2.2.2.1).1 rfl (hD.2.2.2.1).2 (by omega) (by decide) (((h).2.2.2.1).c2) ?_
        refine ce_bipush (v := nI (8)) dX8_readPart_148 (by decide) ?_
        refine ce_icmp_geN (tgt := 157) dX8_readPart_150 (by decide) rfl rfl (by omega) (by omega) (fun c_150 => ?_) (fun c_150 => ?_)
        · refine ce_iconst (v := nI (0)) dX8_readPart_157 (by decide) ?_
          refine ce_cVu dX8_readPart_158 hX8_accept kRX8_128 (m_X8_accept10 d len (p) (kq K) T hD h120 (by omega) hch hT h) rfl rfl hD.1 rfl (by decide) (Nat.le_of_ble_eq_true rfl) (fun cg1 hcg1 => ?_)
          refine ce_aload_n dX8_readPart_161 rfl ?_
          refine ce_iconst (v := nI (1)) dX8_readPart_162 (by decide) ?_
          refine ce_bipush (v := nI (24)) dX8_readPart_163 (by decide) ?_
          refine ce_cVr dX8_readPart_165 hX8_two kRX8_138 (m_X8_twoF d len (p + 0) (kq K) T hD h120 (by omega) hch hT hcg1 (1) (24) (by decide) (by decide)) rfl rfl hD.1 rfl (by decide) (Nat.le_of_ble_eq_true rfl) (fun rcg2 cg2 hcg2 => ?_)
          refine ce_istore_n dX8_readPart_168 (Nat.le_of_ble_eq_true rfl) rfl ?_
          refine ce_aload_n dX8_readPart_169 rfl ?_
          refine ce_getIv dX8_readPart_170 fRX8_122 hD.1 (hcg2).2.2.1 ?_
          refine ce_if_eqN (tgt := 184) dX8_readPart_173 (by decide) rfl (by omega) (fun c_173 => ?_) (fun c_173 => ?_)
          · refine ce_goto (tgt := 277) dX8_readPart_184 (by decide) ?_
            have e : kx_part T len K p = (false, K, p + 0 + 0 + 0) := by
              unfold kx_part
              rw [if_neg c0, if_neg c1, if_pos c2]
              unfold kx_pb
              rw [if_pos (by omega)] <;> rfl
            rw [e]
            exact ce_vret dX8_readPart_277 rfl (by decide) (by decide) ⟨rfl, rfl, hcg2⟩
          · omega
        · refine ce_iconst (v := nI (1)) dX8_readPart_153 (by decide) ?_
          refine ce_goto (tgt := 158) dX8_readPart_154 (by decide) ?_
          refine ce_cVu dX8_readPart_158 hX8_accept kRX8_128 (m_X8_accept11 d len (p) (kq K) T hD h120 (by omega) hch hT h) rfl rfl hD.1 rfl (by decide) (Nat.le_of_ble_eq_true rfl) (fun cg1 hcg1 => ?_)
          refine ce_aload_n dX8_readPart_161 rfl ?_
          refine ce_iconst (v := nI (1)) dX8_readPart_162 (by decide) ?_
          refine ce_bipush (v := nI (24)) dX8_readPart_163 (by decide) ?_
          rcases kn0 : kx_num T len (1) (24) [10, 1] 0 (p + 1) with ⟨_ | n0, u0⟩
          · have l0 := kx_num_q kn0
            refine ce_cVr dX8_readPart_165 hX8_two kRX8_138 (m_X8_twoT d len (p + 1) (kq K) T hD h120 (by omega) hch hT hcg1 (1) (24) (by decide) (by decide)) rfl rfl hD.1 rfl (by decide) (Nat.le_of_ble_eq_true rfl) (fun rcg2 cg2 hcg2 => ?_)
            rw [kn0] at hcg2
            have wcg2 : kr_st g0 cg2 d len u0 0 (kq K) := hcg2.2 rfl
            refine ce_istore_n dX8_readPart_168 (Nat.le_of_ble_eq_true rfl) rfl ?_
            refine ce_aload_n dX8_readPart_169 rfl ?_
            refine ce_getIv dX8_readPart_170 fRX8_122 hD.1 (wcg2).2.2.1 ?_
            refine ce_if_eqN (tgt := 184) dX8_readPart_173 (by decide) rfl (by omega) (fun c_173 => ?_) (fun c_173 => ?_)
            · refine ce_goto (tgt := 277) dX8_readPart_184 (by decide) ?_
              have e : kx_part T len K p = (false, K, u0) := by
                unfold kx_part
                rw [if_neg c0, if_neg c1, if_pos c2]
                unfold kx_pb
                rw [if_neg (by omega)]
                rw [kn0] <;> rfl
              rw [e]
              exact ce_vret dX8_readPart_277 rfl (by decide) (by decide) ⟨rfl, rfl, wcg2⟩
            · omega
          · have l0 := kx_num_le2 kn0
            refine ce_cVr dX8_readPart_165 hX8_two kRX8_138 (m_X8_twoT d len (p + 1) (kq K) T hD h120 (by omega) hch hT hcg1 (1) (24) (by decide) (by decide)) rfl rfl hD.1 rfl (by decide) (Nat.le_of_ble_eq_true rfl) (fun rcg2 cg2 hcg2 => ?_)
            rw [kn0] at hcg2
            obtain ⟨ecg2, wcg2⟩ := hcg2.1 n0 rfl
            subst ecg2
            have wcg2 : kr_st g0 cg2 d len u0 1 (kq K) := wcg2
            refine ce_istore_n dX8_readPart_168 (Nat.le_of_ble_eq_true rfl) rfl ?_
            refine ce_aload_n dX8_readPart_169 rfl ?_
            refine ce_getIv dX8_readPart_170 fRX8_122 hD.1 (wcg2).2.2.1 ?_
            refine ce_if_eqN (tgt := 184) dX8_readPart_173 (by decide) rfl (by omega) (fun c_173 => ?_) (fun c_173 => ?_)
            · omega
            · refine ce_aload_n dX8_readPart_176 rfl ?_
              refine ce_getR dX8_readPart_177 fRX8_13 hD.1 hD.2.1.2.1 ?_
              refine ce_iload_n dX8_readPart_180 rfl ?_
              refine ce_cSu dX8_readPart_181 hX8_addBinTo kRX8_148 (m_X8_addBinTo (d + 2) (kq K) (fun _ => 0) ⟨(hD.2.2.2.1).1, (hD.2.2.2.1).2⟩ wcg2.2.2.2.1 (n0) (by omega)) rfl rfl (by decide) (Nat.le_of_ble_eq_true rfl) (fun cg3 hcg3 => ?_)
              have wcg3 := wcg2.r (kq_inst ▸ hcg3.1) hcg3.2
              refine ce_goto (tgt := 277) dX8_readPart_184 (by decide) ?_
              have e : kx_part T len K p = (true, kv_inst K (n0), u0) := by
                unfold kx_part
                rw [if_neg c0, if_neg c1, if_pos c2]
                unfold kx_pb
                rw [if_neg (by omega)]
                rw [kn0] <;> rfl
              rw [e]
              exact ce_vret dX8_readPart_277 rfl (by decide) (by decide) ⟨rfl, rfl, wcg3⟩
    · omega
  · omega
set_option maxHeartbeats 2000000 in
set_option maxRecDepth 20000 in
theorem m_X8_readPart3 {σ : ce_S} {g0 g : ce_D} (d len p : Nat) (T : Nat → Nat) (hD : ce_LM σ d) (h120 : len ≤ 120) (hp9 : p ≤ 1000) (hch : ∀ i, i < len → g0 (d + 1) i = nI (T i)) (hT : ∀ i, i < len → T i < 256) (K : ce_V) (hk : kv_cl K) (h : kr_st g0 g d len p 1 (kq K)) (hpl : p < len) (c0 : ¬ T p = 109) (c1 : ¬ T p = 119) (c2 : ¬ T p = 98) (c3 : T p = 111) : ce_CT (ce_r 3) mX8_readPart [.ref (d)] σ g (ce_uv σ (fun g1 => kr_st g0 g1 d len (kx_part T len K p).2.2 (if (kx_part T len K p).1 = true then 1 else 0) (kq (kx_part T len K p).2.1))) ce_no := by
  have hB := hk.i7
  have hM := hk.me
  have hW := hk.wi
  have e0 : kq K 0 = K 0 := kq_ne (by decide)
  have hM2 : kq K 0 0 ≤ 6 := by rw [e0]; exact hM
  have hW2 : kq K 0 1 ≤ 6 := by rw [e0]; exact hW
  have hB2 : kq K 0 2 ≤ 8 := by rw [e0]; exact hB
  have ee0 : kq K 0 0 = K 0 0 := by rw [e0]
  have ee1 : kq K 0 1 = K 0 1 := by rw [e0]
  have ee2 : kq K 0 2 = K 0 2 := by rw [e0]
  have hTp := hT p hpl
  refine ce_enter (by decide) rfl (Nat.le_of_ble_eq_true rfl) (L := [some (.ref (d)), none, none, none]) rfl ?_
  refine ce_aload_n dX8_readPart_0 rfl ?_
  refine ce_bipush (v := nI (109)) dX8_readPart_1 (by decide) ?_
  refine ce_cVp dX8_readPart_3 hX8_isNext kRX8_135 (m_X8_isNext d len (p) (kq K) T hD h120 (by omega) hch hT 1 h (109) (by decide)) rfl rfl hD.1 rfl (by decide) (Nat.le_of_ble_eq_true rfl) ?_
  refine ce_if_eqB (tgt := 68) dX8_readPart_6 (by decide) rfl (fun c_6 => ?_) (fun c_6 => ?_)
  · refine ce_aload_n dX8_readPart_68 rfl ?_
    refine ce_bipush (v := nI (119)) dX8_readPart_69 (by decide) ?_
    refine ce_cVp dX8_readPart_71 hX8_isNext kRX8_135 (m_X8_isNext d len (p) (kq K) T hD h120 (by omega) hch hT 1 h (119) (by decide)) rfl rfl hD.1 rfl (by decide) (Nat.le_of_ble_eq_true rfl) ?_
    refine ce_if_eqB (tgt := 132) dX8_readPart_74 (by decide) rfl (fun c_74 => ?_) (fun c_74 => ?_)
    · refine ce_aload_n dX8_readPart_132 rfl ?_
      refine ce_bipush (v := nI (98)) dX8_readPart_133 (by decide) ?_
      refine ce_cVp dX8_readPart_135 hX8_isNext kRX8_135 (m_X8_isNext d len (p) (kq K) T hD h120 (by omega) hch hT 1 h (98) (by decide)) rfl rfl hD.1 rfl (by decide) (Nat.le_of_ble_eq_true rfl) ?_
      refine ce_if_eqB (tgt := 187) dX8_readPart_138 (by decide) rfl (fun c_138 => ?_) (fun c_138 => ?_)
      · refine ce_aload_n dX8_readPart_187 rfl ?_
        refine ce_aload_n dX8_readPart_188 rfl ?_
        refine ce_bipush (v := nI (111)) dX8_readPart_189 (by decide) ?_
        refine ce_cVp dX8_readPart_191 hX8_isNext kRX8_135 (m_X8_isNext d len (p) (kq K) T hD h120 (by omega) hch hT 1 h (111) (by decide)) rfl rfl hD.1 rfl (by decide) (Nat.le_of_ble_eq_true rfl) ?_
        refine ce_if_eqB (tgt := 219) dX8_readPart_194 (by decide) rfl (fun c_194 => ?_) (fun c_194 => ?_)
        · omega
        · refine ce_aload_n dX8_readPart_197 rfl ?_
          refine ce_getR dX8_readPart_198 fRX8_13 hD.1 hD.2.1.2.1 ?_
          refine ce_iconst (v := nI (0)) dX8_readPart_201 (by decide) ?_
          refine ce_ialdv dX8_readPart_202 (hD.2.2.2.1).1 rfl (hD.2.2.2.1).2 (by omega) (by decide) (((h).2.2.2.1).c0) ?_
          refine ce_if_leN (tgt := 219) dX8_readPart_203 (by decide) rfl (by omega) (fun c_203 => ?_) (fun c_203 => ?_)
          · refine ce_iconst (v := nI (0)) dX8_readPart_219 (by decide) ?_
            refine ce_cVu dX8_readPart_220 hX8_accept kRX8_128 (m_X8_accept10 d len (p) (kq K) T hD h120 (by omega) hch hT h) rfl rfl hD.1 rfl (by decide) (Nat.le_of_ble_eq_true rfl) (fun cg1 hcg1 => ?_)
            refine ce_aload_n dX8_readPart_223 rfl ?_
            refine ce_iconst (v := nI (0)) dX8_readPart_224 (by decide) ?_
            refine ce_aload_n dX8_readPart_225 rfl ?_
            refine ce_getR dX8_readPart_226 fRX8_13 hD.1 hD.2.1.2.1 ?_
            refine ce_iconst (v := nI (0)) dX8_readPart_229 (by decide) ?_
            refine ce_ialdv dX8_readPart_230 (hD.2.2.2.1).1 rfl (hD.2.2.2.1).2 (by omega) (by decide) (((hcg1).2.2.2.1).c0) ?_
            refine ce_iconst (v := nI (1)) dX8_readPart_231 (by decide) ?_
            refine ce_isub (z := (nI (kq K 0 0)) - (nI (1))) dX8_readPart_232 rfl ?_
            refine ce_cVr dX8_readPart_233 hX8_digit kRX8_132 (m_X8_digitF d len (p + 0) (kq K) T hD h120 (by omega) hch hT hcg1 (nI (0)) ((nI (kq K 0 0)) - (nI (1)))) rfl rfl hD.1 rfl (by decide) (Nat.le_of_ble_eq_true rfl) (fun rcg2 cg2 hcg2 => ?_)
            have ecg2 := hcg2.1
            subst ecg2
            refine ce_istore_n dX8_readPart_236 (Nat.le_of_ble_eq_true rfl) rfl ?_
            refine ce_aload_n dX8_readPart_237 rfl ?_
            refine ce_iconst (v := nI (0)) dX8_readPart_238 (by decide) ?_
            refine ce_aload_n dX8_readPart_239 rfl ?_
            refine ce_getR dX8_readPart_240 fRX8_13 hD.1 hD.2.1.2.1 ?_
            refine ce_iconst (v := nI (1)) dX8_readPart_243 (by decide) ?_
            refine ce_ialdv dX8_readPart_244 (hD.2.2.2.1).1 rfl (hD.2.2.2.1).2 (by omega) (by decide) (((hcg2.2).2.2.2.1).c1) ?_
            refine ce_iconst (v := nI (1)) dX8_readPart_245 (by decide) ?_
            refine ce_isub (z := (nI (kq K 0 1)) - (nI (1))) dX8_readPart_246 rfl ?_
            refine ce_cVr dX8_readPart_247 hX8_digit kRX8_132 (m_X8_digitF d len (p + 0 + 0) (kq K) T hD h120 (by omega) hch hT hcg2.2 (nI (0)) ((nI (kq K 0 1)) - (nI (1)))) rfl rfl hD.1 rfl (by decide) (Nat.le_of_ble_eq_true rfl) (fun rcg3 cg3 hcg3 => ?_)
            have ecg3 := hcg3.1
            subst ecg3
            refine ce_istore_n dX8_readPart_250 (Nat.le_of_ble_eq_true rfl) rfl ?_
            refine ce_aload_n dX8_readPart_251 rfl ?_
            refine ce_iconst (v := nI (0)) dX8_readPart_252 (by decide) ?_
            refine ce_bipush (v := nI (60)) dX8_readPart_253 (by decide) ?_
            refine ce_cVr dX8_readPart_255 hX8_two kRX8_138 (m_X8_twoF d len (p + 0 + 0 + 0) (kq K) T hD h120 (by omega) hch hT hcg3.2 (0) (60) (by decide) (by decide)) rfl rfl hD.1 rfl (by decide) (Nat.le_of_ble_eq_true rfl) (fun rcg4 cg4 hcg4 => ?_)
            refine ce_istore_n dX8_readPart_258 (Nat.le_of_ble_eq_true rfl) rfl ?_
            refine ce_aload_n dX8_readPart_259 rfl ?_
            refine ce_getIv dX8_readPart_260 fRX8_122 hD.1 (hcg4).2.2.1 ?_
            refine ce_if_eqN (tgt := 277) dX8_readPart_263 (by decide) rfl (by omega) (fun c_263 => ?_) (fun c_263 => ?_)
            · have e : kx_part T len K p = (false, K, p + 0 + 0 + 0 + 0 + 0) := by
                unfold kx_part
                rw [if_neg c0, if_neg c1, if_neg c2, if_pos c3]
                unfold kx_po
                rw [if_pos (by omega)] <;> rfl
              rw [e]
              exact ce_vret dX8_readPart_277 rfl (by decide) (by decide) ⟨rfl, rfl, hcg4⟩
            · omega
          · refine ce_aload_n dX8_readPart_206 rfl ?_
            refine ce_getR dX8_readPart_207 fRX8_13 hD.1 hD.2.1.2.1 ?_
            refine ce_iconst (v := nI (1)) dX8_readPart_210 (by decide) ?_
            refine ce_ialdv dX8_readPart_211 (hD.2.2.2.1).1 rfl (hD.2.2.2.1).2 (by omega) (by decide) (((h).2.2.2.1).c1) ?_
            refine ce_if_leN (tgt := 219) dX8_readPart_212 (by decide) rfl (by omega) (fun c_212 => ?_) (fun c_212 => ?_)
            · refine ce_iconst (v := nI (0)) dX8_readPart_219 (by decide) ?_
              refine ce_cVu dX8_readPart_220 hX8_accept kRX8_128 (m_X8_accept10 d len (p) (kq K) T hD h120 (by omega) hch hT h) rfl rfl hD.1 rfl (by decide) (Nat.le_of_ble_eq_true rfl) (fun cg1 hcg1 => ?_)
              refine ce_aload_n dX8_readPart_223 rfl ?_
              refine ce_iconst (v := nI (0)) dX8_readPart_224 (by decide) ?_
              refine ce_aload_n dX8_readPart_225 rfl ?_
              refine ce_getR dX8_readPart_226 fRX8_13 hD.1 hD.2.1.2.1 ?_
              refine ce_iconst (v := nI (0)) dX8_readPart_229 (by decide) ?_
              refine ce_ialdv dX8_readPart_230 (hD.2.2.2.1).1 rfl (hD.2.2.2.1).2 (by omega) (by decide) (((hcg1).2.2.2.1).c0) ?_
              refine ce_iconst (v := nI (1)) dX8_readPart_231 (by decide) ?_
              refine ce_isub (z := (nI (kq K 0 0)) - (nI (1))) dX8_readPart_232 rfl ?_
              refine ce_cVr dX8_readPart_233 hX8_digit kRX8_132 (m_X8_digitF d len (p + 0) (kq K) T hD h120 (by omega) hch hT hcg1 (nI (0)) ((nI (kq K 0 0)) - (nI (1)))) rfl rfl hD.1 rfl (by decide) (Nat.le_of_ble_eq_true rfl) (fun rcg2 cg2 hcg2 => ?_)
              have ecg2 := hcg2.1
              subst ecg2
              refine ce_istore_n dX8_readPart_236 (Nat.le_of_ble_eq_true rfl) rfl ?_
              refine ce_aload_n dX8_readPart_237 rfl ?_
              refine ce_iconst (v := nI (0)) dX8_readPart_238 (by decide) ?_
              refine ce_aload_n dX8_readPart_239 rfl ?_
              refine ce_getR dX8_readPart_240 fRX8_13 hD.1 hD.2.1.2.1 ?_
              refine ce_iconst (v := nI (1)) dX8_readPart_243 (by decide) ?_
              refine ce_ialdv dX8_readPart_244 (hD.2.2.2.1).1 rfl (hD.2.2.2.1).2 (by omega) (by decide) (((hcg2.2).2.2.2.1).c1) ?_
              refine ce_iconst (v := nI (1)) dX8_readPart_245 (by decide) ?_
              refine ce_isub (z := (nI (kq K 0 1)) - (nI (1))) dX8_readPart_246 rfl ?_
              refine ce_cVr dX8_readPart_247 hX8_digit kRX8_132 (m_X8_digitF d len (p + 0 + 0) (kq K) T hD h120 (by omega) hch hT hcg2.2 (nI (0)) ((nI (kq K 0 1)) - (nI (1)))) rfl rfl hD.1 rfl (by decide) (Nat.le_of_ble_eq_true rfl) (fun rcg3 cg3 hcg3 => ?_)
              have ecg3 := hcg3.1
              subst ecg3
              refine ce_istore_n dX8_readPart_250 (Nat.le_of_ble_eq_true rfl) rfl ?_
              refine ce_aload_n dX8_readPart_251 rfl ?_
              refine ce_iconst (v := nI (0)) dX8_readPart_252 (by decide) ?_
              refine ce_bipush (v := nI (60)) dX8_readPart_253 (by decide) ?_
              refine ce_cVr dX8_readPart_255 hX8_two kRX8_138 (m_X8_twoF d len (p + 0 + 0 + 0) (kq K) T hD h120 (by omega) hch hT hcg3.2 (0) (60) (by decide) (by decide)) rfl rfl hD.1 rfl (by decide) (Nat.le_of_ble_eq_true rfl) (fun rcg4 cg4 hcg4 => ?_)
              refine ce_istore_n dX8_readPart_258 (Nat.le_of_ble_eq_true rfl) rfl ?_
              refine ce_aload_n dX8_readPart_259 rfl ?_
              refine ce_getIv dX8_readPart_260 fRX8_122 hD.1 (hcg4).2.2.1 ?_
              refine ce_if_eqN (tgt := 277) dX8_readPart_263 (by decide) rfl (by omega) (fun c_263 => ?_) (fun c_263 => ?_)
              · have e : kx_part T len K p = (false, K, p + 0 + 0 + 0 + 0 + 0) := by
                  unfold kx_part
                  rw [if_neg c0, if_neg c1, if_neg c2, if_pos c3]
                  unfold kx_po
                  rw [if_pos (by omega)] <;> rfl
                rw [e]
                exact ce_vret dX8_readPart_277 rfl (by decide) (by decide) ⟨rfl, rfl, hcg4⟩
              · omega
            · refine ce_iconst (v := nI (1)) dX8_readPart_215 (by decide) ?_
              refine ce_goto (tgt := 220) dX8_readPart_216 (by decide) ?_
              refine ce_cVu dX8_readPart_220 hX8_accept kRX8_128 (m_X8_accept11 d len (p) (kq K) T hD h120 (by omega) hch hT h) rfl rfl hD.1 rfl (by decide) (Nat.le_of_ble_eq_true rfl) (fun cg1 hcg1 => ?_)
              refine ce_aload_n dX8_readPart_223 rfl ?_
              refine ce_iconst (v := nI (0)) dX8_readPart_224 (by decide) ?_
              refine ce_aload_n dX8_readPart_225 rfl ?_
              refine ce_getR dX8_readPart_226 fRX8_13 hD.1 hD.2.1.2.1 ?_
              refine ce_iconst (v := nI (0)) dX8_readPart_229 (by decide) ?_
              refine ce_ialdv dX8_readPart_230 (hD.2.2.2.1).1 rfl (hD.2.2.2.1).2 (by omega) (by decide) (((hcg1).2.2.2.1).c0) ?_
              refine ce_iconst (v := nI (1)) dX8_readPart_231 (by decide) ?_
              refine ce_isub (z := nI (kq K 0 0 - (1))) dX8_readPart_232 (pk_sub (by omega)) ?_
              by_cases ok0 : kr_ok T len (0) (kq K 0 0 - (1)) (p + 1)
              · have hTk0 := hT (p + 1)
                have okq0 := ok0.2.2
                have okr0 := ok0.1
                refine ce_cVr dX8_readPart_233 hX8_digit kRX8_132 (m_X8_digitY d len (p + 1) (kq K) T hD h120 (by omega) hch hT hcg1 (0) (kq K 0 0 - (1)) (by omega) (by omega) ok0) rfl rfl hD.1 rfl (by decide) (Nat.le_of_ble_eq_true rfl) (fun rcg2 cg2 hcg2 => ?_)
                have ecg2 := hcg2.1
                subst ecg2
                refine ce_istore_n dX8_readPart_236 (Nat.le_of_ble_eq_true rfl) rfl ?_
                refine ce_aload_n dX8_readPart_237 rfl ?_
                refine ce_iconst (v := nI (0)) dX8_readPart_238 (by decide) ?_
                refine ce_aload_n dX8_readPart_239 rfl ?_
                refine ce_getR dX8_readPart_240 fRX8_13 hD.1 hD.2.1.2.1 ?_
                refine ce_iconst (v := nI (1)) dX8_readPart_243 (by decide) ?_
                refine ce_ialdv dX8_readPart_244 (hD.2.2.2.1).1 rfl (hD.2.2.2.1).2 (by omega) (by decide) (((hcg2.2).2.2.2.1).c1) ?_
                refine ce_iconst (v := nI (1)) dX8_readPart_245 (by decide) ?_
                refine ce_isub (z := nI (kq K 0 1 - (1))) dX8_readPart_246 (pk_sub (by omega)) ?_
                by_cases ok1 : kr_ok T len (0) (kq K 0 1 - (1)) (p + 1 + 1)
                · have hTk1 := hT (p + 1 + 1)
                  have okq1 := ok1.2.2
                  have okr1 := ok1.1
                  refine ce_cVr dX8_readPart_247 hX8_digit kRX8_132 (m_X8_digitY d len (p + 1 + 1) (kq K) T hD h120 (by omega) hch hT hcg2.2 (0) (kq K 0 1 - (1)) (by omega) (by omega) ok1) rfl rfl hD.1 rfl (by decide) (Nat.le_of_ble_eq_true rfl) (fun rcg3 cg3 hcg3 => ?_)
                  have ecg3 := hcg3.1
                  subst ecg3
                  refine ce_istore_n dX8_readPart_250 (Nat.le_of_ble_eq_true rfl) rfl ?_
                  refine ce_aload_n dX8_readPart_251 rfl ?_
                  refine ce_iconst (v := nI (0)) dX8_readPart_252 (by decide) ?_
                  refine ce_bipush (v := nI (60)) dX8_readPart_253 (by decide) ?_
                  rcases kn2 : kx_num T len (0) (60) [10, 1] 0 (p + 1 + 1 + 1) with ⟨_ | n2, u2⟩
                  · have l2 := kx_num_q kn2
                    refine ce_cVr dX8_readPart_255 hX8_two kRX8_138 (m_X8_twoT d len (p + 1 + 1 + 1) (kq K) T hD h120 (by omega) hch hT hcg3.2 (0) (60) (by decide) (by decide)) rfl rfl hD.1 rfl (by decide) (Nat.le_of_ble_eq_true rfl) (fun rcg4 cg4 hcg4 => ?_)
                    rw [kn2] at hcg4
                    have wcg4 : kr_st g0 cg4 d len u2 0 (kq K) := hcg4.2 rfl
                    refine ce_istore_n dX8_readPart_258 (Nat.le_of_ble_eq_true rfl) rfl ?_
                    refine ce_aload_n dX8_readPart_259 rfl ?_
                    refine ce_getIv dX8_readPart_260 fRX8_122 hD.1 (wcg4).2.2.1 ?_
                    refine ce_if_eqN (tgt := 277) dX8_readPart_263 (by decide) rfl (by omega) (fun c_263 => ?_) (fun c_263 => ?_)
                    · have e : kx_part T len K p = (false, K, u2) := by
                        unfold kx_part
                        rw [if_neg c0, if_neg c1, if_neg c2, if_pos c3]
                        unfold kx_po
                        rw [if_neg (by omega)]
                        rw [← ee0]
                        rw [kx1_y ok0]
                        try dsimp only
                        rw [← ee1]
                        rw [kx1_y ok1]
                        try dsimp only
                        rw [kn2] <;> rfl
                      rw [e]
                      exact ce_vret dX8_readPart_277 rfl (by decide) (by decide) ⟨rfl, rfl, wcg4⟩
                    · omega
                  · have l2 := kx_num_le2 kn2
                    refine ce_cVr dX8_readPart_255 hX8_two kRX8_138 (m_X8_twoT d len (p + 1 + 1 + 1) (kq K) T hD h120 (by omega) hch hT hcg3.2 (0) (60) (by decide) (by decide)) rfl rfl hD.1 rfl (by decide) (Nat.le_of_ble_eq_true rfl) (fun rcg4 cg4 hcg4 => ?_)
                    rw [kn2] at hcg4
                    obtain ⟨ecg4, wcg4⟩ := hcg4.1 n2 rfl
                    subst ecg4
                    have wcg4 : kr_st g0 cg4 d len u2 1 (kq K) := wcg4
                    refine ce_istore_n dX8_readPart_258 (Nat.le_of_ble_eq_true rfl) rfl ?_
                    refine ce_aload_n dX8_readPart_259 rfl ?_
                    refine ce_getIv dX8_readPart_260 fRX8_122 hD.1 (wcg4).2.2.1 ?_
                    refine ce_if_eqN (tgt := 277) dX8_readPart_263 (by decide) rfl (by omega) (fun c_263 => ?_) (fun c_263 => ?_)
                    · omega
                    · refine ce_aload_n dX8_readPart_266 rfl ?_
                      refine ce_getR dX8_readPart_267 fRX8_13 hD.1 hD.2.1.2.1 ?_
                      refine ce_iload_n dX8_readPart_270 rfl ?_
                      refine ce_iload_n dX8_readPart_271 rfl ?_
                      refine ce_cSp dX8_readPart_272 hX8_hold kRX8_54 (m_X8_hold (T (p + 1) - 48) (T (p + 1 + 1) - 48)) rfl rfl (by decide) (Nat.le_of_ble_eq_true rfl) ?_
                      refine ce_iload_n dX8_readPart_275 rfl ?_
                      refine ce_iast dX8_readPart_276 (hD.2.2.2.1).1 rfl (hD.2.2.2.1).2 (by omega) (by decide) ?_
                      generalize hcg5 : ce_up cg4 (d + 2) (81 + 18 * (T (p + 1) - 48) + 3 * (T (p + 1 + 1) - 48)) (nI (n2)) = cg5
                      have wcg5 := wcg4.r (kq_ord ▸ (show cr_row (cg5 (d + 2)) (kv_up (kq K) 7 ((T (p + 1) - 48) * 6 + (T (p + 1 + 1) - 48)) (n2)) (fun _ => 0) by rw [← hcg5, ce_up_eq]; exact (wcg4.2.2.2.1).uh0 (by omega) (by omega) (n2))) (fun x hx => by rw [← hcg5]; exact ce_up_ne _ _ _ hx)
                      have e : kx_part T len K p = (true, kv_ord K (T (p + 1) - 48) (T (p + 1 + 1) - 48) (n2), u2) := by
                        unfold kx_part
                        rw [if_neg c0, if_neg c1, if_neg c2, if_pos c3]
                        unfold kx_po
                        rw [if_neg (by omega)]
                        rw [← ee0]
                        rw [kx1_y ok0]
                        try dsimp only
                        rw [← ee1]
                        rw [kx1_y ok1]
                        try dsimp only
                        rw [kn2] <;> rfl
                      rw [e]
                      exact ce_vret dX8_readPart_277 rfl (by decide) (by decide) ⟨rfl, rfl, wcg5⟩
                · have hTk1 := hT (p + 1 + 1)
                  refine ce_cVr dX8_readPart_247 hX8_digit kRX8_132 (m_X8_digitN d len (p + 1 + 1) (kq K) T hD h120 (by omega) hch hT hcg2.2 (0) (kq K 0 1 - (1)) (by omega) (by omega) ok1) rfl rfl hD.1 rfl (by decide) (Nat.le_of_ble_eq_true rfl) (fun rcg3 cg3 hcg3 => ?_)
                  have ecg3 := hcg3.1
                  subst ecg3
                  refine ce_istore_n dX8_readPart_250 (Nat.le_of_ble_eq_true rfl) rfl ?_
                  refine ce_aload_n dX8_readPart_251 rfl ?_
                  refine ce_iconst (v := nI (0)) dX8_readPart_252 (by decide) ?_
                  refine ce_bipush (v := nI (60)) dX8_readPart_253 (by decide) ?_
                  refine ce_cVr dX8_readPart_255 hX8_two kRX8_138 (m_X8_twoF d len (p + 1 + 1 + 0) (kq K) T hD h120 (by omega) hch hT hcg3.2 (0) (60) (by decide) (by decide)) rfl rfl hD.1 rfl (by decide) (Nat.le_of_ble_eq_true rfl) (fun rcg4 cg4 hcg4 => ?_)
                  refine ce_istore_n dX8_readPart_258 (Nat.le_of_ble_eq_true rfl) rfl ?_
                  refine ce_aload_n dX8_readPart_259 rfl ?_
                  refine ce_getIv dX8_readPart_260 fRX8_122 hD.1 (hcg4).2.2.1 ?_
                  refine ce_if_eqN (tgt := 277) dX8_readPart_263 (by decide) rfl (by omega) (fun c_263 => ?_) (fun c_263 => ?_)
                  · have e : kx_part T len K p = (false, K, p + 1 + 1 + 0 + 0 + 0) := by
                      unfold kx_part
                      rw [if_neg c0, if_neg c1, if_neg c2, if_pos c3]
                      unfold kx_po
                      rw [if_neg (by omega)]
                      rw [← ee0]
                      rw [kx1_y ok0]
                      try dsimp only
                      rw [← ee1]
                      rw [kx1_n ok1] <;> rfl
                    rw [e]
                    exact ce_vret dX8_readPart_277 rfl (by decide) (by decide) ⟨rfl, rfl, hcg4⟩
                  · omega
              · have hTk0 := hT (p + 1)
                refine ce_cVr dX8_readPart_233 hX8_digit kRX8_132 (m_X8_digitN d len (p + 1) (kq K) T hD h120 (by omega) hch hT hcg1 (0) (kq K 0 0 - (1)) (by omega) (by omega) ok0) rfl rfl hD.1 rfl (by decide) (Nat.le_of_ble_eq_true rfl) (fun rcg2 cg2 hcg2 => ?_)
                have ecg2 := hcg2.1
                subst ecg2
                refine ce_istore_n dX8_readPart_236 (Nat.le_of_ble_eq_true rfl) rfl ?_
                refine ce_aload_n dX8_readPart_237 rfl ?_
                refine ce_iconst (v := nI (0)) dX8_readPart_238 (by decide) ?_
                refine ce_aload_n dX8_readPart_239 rfl ?_
                refine ce_getR dX8_readPart_240 fRX8_13 hD.1 hD.2.1.2.1 ?_
                refine ce_iconst (v := nI (1)) dX8_readPart_243 (by decide) ?_
                refine ce_ialdv dX8_readPart_244 (hD.2.2.2.1).1 rfl (hD.2.2.2.1).2 (by omega) (by decide) (((hcg2.2).2.2.2.1).c1) ?_
                refine ce_iconst (v := nI (1)) dX8_readPart_245 (by decide) ?_
                refine ce_isub (z := (nI (kq K 0 1)) - (nI (1))) dX8_readPart_246 rfl ?_
                refine ce_cVr dX8_readPart_247 hX8_digit kRX8_132 (m_X8_digitF d len (p + 1 + 0) (kq K) T hD h120 (by omega) hch hT hcg2.2 (nI (0)) ((nI (kq K 0 1)) - (nI (1)))) rfl rfl hD.1 rfl (by decide) (Nat.le_of_ble_eq_true rfl) (fun rcg3 cg3 hcg3 => ?_)
                have ecg3 := hcg3.1
                subst ecg3
                refine ce_istore_n dX8_readPart_250 (Nat.le_of_ble_eq_true rfl) rfl ?_
                refine ce_aload_n dX8_readPart_251 rfl ?_
                refine ce_iconst (v := nI (0)) dX8_readPart_252 (by decide) ?_
                refine ce_bipush (v := nI (60)) dX8_readPart_253 (by decide) ?_
                refine ce_cVr dX8_readPart_255 hX8_two kRX8_138 (m_X8_twoF d len (p + 1 + 0 + 0) (kq K) T hD h120 (by omega) hch hT hcg3.2 (0) (60) (by decide) (by decide)) rfl rfl hD.1 rfl (by decide) (Nat.le_of_ble_eq_true rfl) (fun rcg4 cg4 hcg4 => ?_)
                refine ce_istore_n dX8_readPart_258 (Nat.le_of_ble_eq_true rfl) rfl ?_
                refine ce_aload_n dX8_readPart_259 rfl ?_
                refine ce_getIv dX8_readPart_260 fRX8_122 hD.1 (hcg4).2.2.1 ?_
                refine ce_if_eqN (tgt := 277) dX8_readPart_263 (by decide) rfl (by omega) (fun c_263 => ?_) (fun c_263 => ?_)
                · have e : kx_part T len K p = (false, K, p + 1 + 0 + 0 + 0 + 0) := by
                    unfold kx_part
                    rw [if_neg c0, if_neg c1, if_neg c2, if_pos c3]
                    unfold kx_po
                    rw [if_neg (by omega)]
                    rw [← ee0]
                    rw [kx1_n ok0] <;> rfl
                  rw [e]
                  exact ce_vret dX8_readPart_277 rfl (by decide) (by decide) ⟨rfl, rfl, hcg4⟩
                · omega
      · omega
    · omega
  · omega
set_option maxHeartbeats 2000000 in
set_option maxRecDepth 20000 in
theorem m_X8_readPart4 {σ : ce_S} {g0 g : ce_D} (d len p : Nat) (T : Nat → Nat) (hD : ce_LM σ d) (h120 : len ≤ 120) (hp9 : p ≤ 1000) (hch : ∀ i, i < len → g0 (d + 1) i = nI (T i)) (hT : ∀ i, i < len → T i < 256) (K : ce_V) (hk : kv_cl K) (h : kr_st g0 g d len p 1 (kq K)) (hpl : p < len) (c0 : ¬ T p = 109) (c1 : ¬ T p = 119) (c2 : ¬ T p = 98) (c3 : ¬ T p = 111) : ce_CT (ce_r 3) mX8_readPart [.ref (d)] σ g (ce_uv σ (fun g1 => kr_st g0 g1 d len (kx_part T len K p).2.2 (if (kx_part T len K p).1 = true then 1 else 0) (kq (kx_part T len K p).2.1))) ce_no := by
  have hB := hk.i7
  have hM := hk.me
  have hW := hk.wi
  have e0 : kq K 0 = K 0 := kq_ne (by decide)
  have hM2 : kq K 0 0 ≤ 6 := by rw [e0]; exact hM
  have hW2 : kq K 0 1 ≤ 6 := by rw [e0]; exact hW
  have hB2 : kq K 0 2 ≤ 8 := by rw [e0]; exact hB
  have ee0 : kq K 0 0 = K 0 0 := by rw [e0]
  have ee1 : kq K 0 1 = K 0 1 := by rw [e0]
  have ee2 : kq K 0 2 = K 0 2 := by rw [e0]
  have hTp := hT p hpl
  refine ce_enter (by decide) rfl (Nat.le_of_ble_eq_true rfl) (L := [some (.ref (d)), none, none, none]) rfl ?_
  refine ce_aload_n dX8_readPart_0 rfl ?_
  refine ce_bipush (v := nI (109)) dX8_readPart_1 (by decide) ?_
  refine ce_cVp dX8_readPart_3 hX8_isNext kRX8_135 (m_X8_isNext d len (p) (kq K) T hD h120 (by omega) hch hT 1 h (109) (by decide)) rfl rfl hD.1 rfl (by decide) (Nat.le_of_ble_eq_true rfl) ?_
  refine ce_if_eqB (tgt := 68) dX8_readPart_6 (by decide) rfl (fun c_6 => ?_) (fun c_6 => ?_)
  · refine ce_aload_n dX8_readPart_68 rfl ?_
    refine ce_bipush (v := nI (119)) dX8_readPart_69 (by decide) ?_
    refine ce_cVp dX8_readPart_71 hX8_isNext kRX8_135 (m_X8_isNext d len (p) (kq K) T hD h120 (by omega) hch hT 1 h (119) (by decide)) rfl rfl hD.1 rfl (by decide) (Nat.le_of_ble_eq_true rfl) ?_
    refine ce_if_eqB (tgt := 132) dX8_readPart_74 (by decide) rfl (fun c_74 => ?_) (fun c_74 => ?_)
    · refine ce_aload_n dX8_readPart_132 rfl ?_
      refine ce_bipush (v := nI (98)) dX8_readPart_133 (by decide) ?_
      refine ce_cVp dX8_readPart_135 hX8_isNext kRX8_135 (m_X8_isNext d len (p) (kq K) T hD h120 (by omega) hch hT 1 h (98) (by decide)) rfl rfl hD.1 rfl (by decide) (Nat.le_of_ble_eq_true rfl) ?_
      refine ce_if_eqB (tgt := 187) dX8_readPart_138 (by decide) rfl (fun c_138 => ?_) (fun c_138 => ?_)
      · refine ce_aload_n dX8_readPart_187 rfl ?_
        refine ce_aload_n dX8_readPart_188 rfl ?_
        refine ce_bipush (v := nI (111)) dX8_readPart_189 (by decide) ?_
        refine ce_cVp dX8_readPart_191 hX8_isNext kRX8_135 (m_X8_isNext d len (p) (kq K) T hD h120 (by omega) hch hT 1 h (111) (by decide)) rfl rfl hD.1 rfl (by decide) (Nat.le_of_ble_eq_true rfl) ?_
        refine ce_if_eqB (tgt := 219) dX8_readPart_194 (by decide) rfl (fun c_194 => ?_) (fun c_194 => ?_)
        · refine ce_iconst (v := nI (0)) dX8_readPart_219 (by decide) ?_
          refine ce_cVu dX8_readPart_220 hX8_accept kRX8_128 (m_X8_accept10 d len (p) (kq K) T hD h120 (by omega) hch hT h) rfl rfl hD.1 rfl (by decide) (Nat.le_of_ble_eq_true rfl) (fun cg1 hcg1 => ?_)
          refine ce_aload_n dX8_readPart_223 rfl ?_
          refine ce_iconst (v := nI (0)) dX8_readPart_224 (by decide) ?_
          refine ce_aload_n dX8_readPart_225 rfl ?_
          refine ce_getR dX8_readPart_226 fRX8_13 hD.1 hD.2.1.2.1 ?_
          refine ce_iconst (v := nI (0)) dX8_readPart_229 (by decide) ?_
          refine ce_ialdv dX8_readPart_230 (hD.2.2.2.1).1 rfl (hD.2.2.2.1).2 (by omega) (by decide) (((hcg1).2.2.2.1).c0) ?_
          refine ce_iconst (v := nI (1)) dX8_readPart_231 (by decide) ?_
          refine ce_isub (z := (nI (kq K 0 0)) - (nI (1))) dX8_readPart_232 rfl ?_
          refine ce_cVr dX8_readPart_233 hX8_digit kRX8_132 (m_X8_digitF d len (p + 0) (kq K) T hD h120 (by omega) hch hT hcg1 (nI (0)) ((nI (kq K 0 0)) - (nI (1)))) rfl rfl hD.1 rfl (by decide) (Nat.le_of_ble_eq_true rfl) (fun rcg2 cg2 hcg2 => ?_)
          have ecg2 := hcg2.1
          subst ecg2
          refine ce_istore_n dX8_readPart_236 (Nat.le_of_ble_eq_true rfl) rfl ?_
          refine ce_aload_n dX8_readPart_237 rfl ?_
          refine ce_iconst (v := nI (0)) dX8_readPart_238 (by decide) ?_
          refine ce_aload_n dX8_readPart_239 rfl ?_
          refine ce_getR dX8_readPart_240 fRX8_13 hD.1 hD.2.1.2.1 ?_
          refine ce_iconst (v := nI (1)) dX8_readPart_243 (by decide) ?_
          refine ce_ialdv dX8_readPart_244 (hD.2.2.2.1).1 rfl (hD.2.2.2.1).2 (by omega) (by decide) (((hcg2.2).2.2.2.1).c1) ?_
          refine ce_iconst (v := nI (1)) dX8_readPart_245 (by decide) ?_
          refine ce_isub (z := (nI (kq K 0 1)) - (nI (1))) dX8_readPart_246 rfl ?_
          refine ce_cVr dX8_readPart_247 hX8_digit kRX8_132 (m_X8_digitF d len (p + 0 + 0) (kq K) T hD h120 (by omega) hch hT hcg2.2 (nI (0)) ((nI (kq K 0 1)) - (nI (1)))) rfl rfl hD.1 rfl (by decide) (Nat.le_of_ble_eq_true rfl) (fun rcg3 cg3 hcg3 => ?_)
          have ecg3 := hcg3.1
          subst ecg3
          refine ce_istore_n dX8_readPart_250 (Nat.le_of_ble_eq_true rfl) rfl ?_
          refine ce_aload_n dX8_readPart_251 rfl ?_
          refine ce_iconst (v := nI (0)) dX8_readPart_252 (by decide) ?_
          refine ce_bipush (v := nI (60)) dX8_readPart_253 (by decide) ?_
          refine ce_cVr dX8_readPart_255 hX8_two kRX8_138 (m_X8_twoF d len (p + 0 + 0 + 0) (kq K) T hD h120 (by omega) hch hT hcg3.2 (0) (60) (by decide) (by decide)) rfl rfl hD.1 rfl (by decide) (Nat.le_of_ble_eq_true rfl) (fun rcg4 cg4 hcg4 => ?_)
          refine ce_istore_n dX8_readPart_258 (Nat.le_of_ble_eq_true rfl) rfl ?_
          refine ce_aload_n dX8_readPart_259 rfl ?_
          refine ce_getIv dX8_readPart_260 fRX8_122 hD.1 (hcg4).2.2.1 ?_
          refine ce_if_eqN (tgt := 277) dX8_readPart_263 (by decide) rfl (by omega) (fun c_263 => ?_) (fun c_263 => ?_)
          · have e : kx_part T len K p = (false, K, p + 0 + 0 + 0 + 0 + 0) := by
              unfold kx_part
              rw [if_neg c0, if_neg c1, if_neg c2, if_neg c3] <;> rfl
            rw [e]
            exact ce_vret dX8_readPart_277 rfl (by decide) (by decide) ⟨rfl, rfl, hcg4⟩
          · omega
        · omega
      · omega
    · omega
  · omega
theorem m_X8_readPart {σ : ce_S} {g0 g : ce_D} (d len p : Nat) (T : Nat → Nat) (hD : ce_LM σ d) (h120 : len ≤ 120) (hp9 : p ≤ 1000) (hch : ∀ i, i < len → g0 (d + 1) i = nI (T i)) (hT : ∀ i, i < len → T i < 256) (K : ce_V) (hk : kv_cl K) (h : kr_st g0 g d len p 1 (kq K)) (hpl : p < len) : ce_CT (ce_r 3) mX8_readPart [.ref (d)] σ g (ce_uv σ (fun g1 => kr_st g0 g1 d len (kx_part T len K p).2.2 (if (kx_part T len K p).1 = true then 1 else 0) (kq (kx_part T len K p).2.1))) ce_no := by
  by_cases c0 : T p = 109
  · exact m_X8_readPart0 d len p T hD h120 hp9 hch hT K hk h hpl c0
  by_cases c1 : T p = 119
  · exact m_X8_readPart1 d len p T hD h120 hp9 hch hT K hk h hpl c0 c1
  by_cases c2 : T p = 98
  · exact m_X8_readPart2 d len p T hD h120 hp9 hch hT K hk h hpl c0 c1 c2
  by_cases c3 : T p = 111
  · exact m_X8_readPart3 d len p T hD h120 hp9 hch hT K hk h hpl c0 c1 c2 c3
  · exact m_X8_readPart4 d len p T hD h120 hp9 hch hT K hk h hpl c0 c1 c2 c3
set_option maxHeartbeats 2000000 in
set_option maxRecDepth 20000 in
theorem w_X8_readText {σ : ce_S} {g0 : ce_D} (d len : Nat) (T : Nat → Nat) (hD : ce_LM σ d) (h120 : len ≤ 120) (hch : ∀ i, i < len → g0 (d + 1) i = nI (T i)) (hT : ∀ i, i < len → T i < 256) : ∀ (n9 : Nat) (g : ce_D) (t p : Nat) (K : ce_V), len + 1 - p < n9 → (121 ≤ t + p ∧ t ≤ 120) → p ≤ len → kv_cl K → kr_st g0 g d len p 1 (kq K) → ce_WP (ce_r 4) mX8_readText 0 0 42 [some (.ref (d)), none] [] σ g (ce_rv σ (fun z9 g1 => z9 = ce_o (kx_loop T len (t) (K) (p)).1 ∧ ∃ q8 q9, kr_st g0 g1 d len q8 q9 (kq (kx_loop T len (t) (K) (p)).2))) ce_no := by
  intro n9
  induction n9 with
  | zero =>
    intros
    omega
  | succ n9 ih =>
    intro g t p K hm htp hp hk h
    refine ce_aload_n dX8_readText_42 rfl ?_
    refine ce_getIv dX8_readText_43 fRX8_122 hD.1 (h).2.2.1 ?_
    refine ce_if_eqN (tgt := 67) dX8_readText_46 (by decide) rfl (by omega) (fun c_46 => ?_) (fun c_46 => ?_)
    · omega
    · refine ce_aload_n dX8_readText_49 rfl ?_
      refine ce_getIv dX8_readText_50 fRX8_119 hD.1 (h).2.1 ?_
      refine ce_aload_n dX8_readText_53 rfl ?_
      refine ce_getIv dX8_readText_54 fRX8_112 hD.1 (h).1 ?_
      refine ce_icmp_geN (tgt := 67) dX8_readText_57 (by decide) rfl rfl (by omega) (by omega) (fun c_57 => ?_) (fun c_57 => ?_)
      · refine ce_aload_n dX8_readText_67 rfl ?_
        refine ce_getIv dX8_readText_68 fRX8_122 hD.1 (h).2.2.1 ?_
        refine ce_if_eqN (tgt := 79) dX8_readText_71 (by decide) rfl (by omega) (fun c_71 => ?_) (fun c_71 => ?_)
        · omega
        · refine ce_ldc dX8_readText_74 kRX8_65 ?_
          refine ce_goto (tgt := 83) dX8_readText_76 (by decide) ?_
          refine ce_iret dX8_readText_83 rfl rfl (by decide) (by decide) ?_
          rw [kx_loop_n (by omega)]
          exact ⟨_, rfl, rfl, by first | rfl | decide, _, _, h⟩
      · refine ce_aload_n dX8_readText_60 rfl ?_
        have o9 := kx_part_ok (T := T) hk (show p < len by omega)
        by_cases hq : (kx_part T len K p).1 = true
        · have o8 := o9.2.2.1
          refine ce_cVu dX8_readText_61 hX8_readPart kRX8_151 (m_X8_readPart d len p T hD h120 (by omega) hch hT K hk h (by omega)) rfl rfl hD.1 rfl (by decide) (Nat.le_of_ble_eq_true rfl) (fun cg1 hcg1 => ?_)
          rw [if_pos hq] at hcg1
          have wcg1 := hcg1
          refine ce_goto (tgt := 42) dX8_readText_64 (by decide) ?_
          rw [kx_loop_y (t := t) (by omega) (by omega) hq]
          exact ih cg1 (t - 1) (kx_part T len K p).2.2 (kx_part T len K p).2.1 (by have := o9.2.2.2 hq; omega) (by have := o9.2.2.2 hq; omega) o9.2.2.1 o9.1 wcg1
        · have o8 := o9.2.2.1
          refine ce_cVu dX8_readText_61 hX8_readPart kRX8_151 (m_X8_readPart d len p T hD h120 (by omega) hch hT K hk h (by omega)) rfl rfl hD.1 rfl (by decide) (Nat.le_of_ble_eq_true rfl) (fun cg1 hcg1 => ?_)
          rw [if_neg hq] at hcg1
          have wcg1 := hcg1
          refine ce_goto (tgt := 42) dX8_readText_64 (by decide) ?_
          refine ce_aload_n dX8_readText_42 rfl ?_
          refine ce_getIv dX8_readText_43 fRX8_122 hD.1 (wcg1).2.2.1 ?_
          refine ce_if_eqN (tgt := 67) dX8_readText_46 (by decide) rfl (by omega) (fun c_46 => ?_) (fun c_46 => ?_)
          · refine ce_aload_n dX8_readText_67 rfl ?_
            refine ce_getIv dX8_readText_68 fRX8_122 hD.1 (wcg1).2.2.1 ?_
            refine ce_if_eqN (tgt := 79) dX8_readText_71 (by decide) rfl (by omega) (fun c_71 => ?_) (fun c_71 => ?_)
            · refine ce_aload_n dX8_readText_79 rfl ?_
              refine ce_getIv dX8_readText_80 fRX8_119 hD.1 (wcg1).2.1 ?_
              refine ce_iret dX8_readText_83 rfl rfl (by decide) (by decide) ?_
              rw [kx_loop_x (t := t) (by omega) (by omega) hq]
              exact ⟨_, rfl, rfl, rfl, _, _, wcg1⟩
            · omega
          · omega
theorem cr_zero {f : Nat → Int32} (h : ∀ i, i < 189 → f i = nI 0) : cr_row f (kq kv_0) (fun _ => 0) := by
  intro i hi
  rw [h i hi]
  by_cases e : cr_a i = 20
  · rw [if_pos e]; rfl
  · rw [if_neg e]
    unfold kq
    by_cases e1 : cr_a i = 14
    · rw [if_pos e1]
      exact congrArg nI (cl_z 6).symm
    · rw [if_neg e1]
      by_cases e2 : cr_a i = 15
      · rw [if_pos e2]
        exact congrArg nI (cl_z 6).symm
      · rw [if_neg e2]; rfl
set_option maxHeartbeats 2000000 in
set_option maxRecDepth 20000 in
theorem w0_X8_readText {σ : ce_S} {g0 : ce_D} (d len : Nat) (T : Nat → Nat) (hD : ce_LM σ d) (h120 : len ≤ 120) (hch : ∀ i, i < len → g0 (d + 1) i = nI (T i)) (hT : ∀ i, i < len → T i < 256) : ∀ (n9 i : Nat) (g : ce_D), 189 - i < n9 → i ≤ 189 → (∀ m, m < i → g (d + 2) m = nI 0) → (g d 2 = nI len ∧ g d 3 = nI 0 ∧ g d 4 = nI 1 ∧ (g d 0 = g0 d 0 ∧ g d 9 = g0 d 9) ∧ ∀ x, x ≠ d → x ≠ d + 2 → g x = g0 x) → ce_WP (ce_r 4) mX8_readText 0 0 12 [some (.ref (d)), some (.int (nI (i)))] [] σ g (ce_rv σ (fun z9 g1 => z9 = ce_o (kx_read T len).1 ∧ ∃ q8 q9, kr_st g0 g1 d len q8 q9 (kq (kx_read T len).2))) ce_no := by
  intro n9
  induction n9 with
  | zero =>
    intros
    omega
  | succ n9 ih =>
    intro i g hm hi hr hz
    refine ce_iload_n dX8_readText_12 rfl ?_
    refine ce_sipush (v := nI (189)) dX8_readText_13 (by decide) ?_
    refine ce_icmp_geN (tgt := 32) dX8_readText_16 (by decide) rfl rfl (by omega) (by omega) (fun c_16 => ?_) (fun c_16 => ?_)
    · refine ce_drop (L' := [some (.ref (d)), none]) (ce_le_s rfl (ce_le_n ce_le_e)) ?_
      have h : kr_st g0 g d len 0 1 (kq kv_0) := ⟨hz.1, hz.2.1, hz.2.2.1, cr_zero (fun j hj => hr j (by omega)), hz.2.2.2.1, hz.2.2.2.2⟩
      by_cases hC : len = 0 ∨ T 0 ≠ 67
      · refine ce_aload_n dX8_readText_32 rfl ?_
        refine ce_aload_n dX8_readText_33 rfl ?_
        refine ce_bipush (v := nI (67)) dX8_readText_34 (by decide) ?_
        refine ce_cVp dX8_readText_36 hX8_isNext kRX8_135 ((show (if 0 < len ∧ T 0 = 67 then (1 : Int32) else 0) = nI (0) from if_neg (by omega)) ▸ m_X8_isNext d len 0 (kq kv_0) T hD h120 (by omega) hch hT 1 h 67 (by decide)) rfl rfl hD.1 rfl (by decide) (Nat.le_of_ble_eq_true rfl) ?_
        refine ce_cVu dX8_readText_39 hX8_accept kRX8_128 (m_X8_accept10 d len (0) (kq kv_0) T hD h120 (by omega) hch hT h) rfl rfl hD.1 rfl (by decide) (Nat.le_of_ble_eq_true rfl) (fun cg1 hcg1 => ?_)
        have e : kx_read T len = (some 0, kv_0) := if_pos hC
        rw [e]
        refine ce_aload_n dX8_readText_42 rfl ?_
        refine ce_getIv dX8_readText_43 fRX8_122 hD.1 (hcg1).2.2.1 ?_
        refine ce_if_eqN (tgt := 67) dX8_readText_46 (by decide) rfl (by omega) (fun c_46 => ?_) (fun c_46 => ?_)
        · refine ce_aload_n dX8_readText_67 rfl ?_
          refine ce_getIv dX8_readText_68 fRX8_122 hD.1 (hcg1).2.2.1 ?_
          refine ce_if_eqN (tgt := 79) dX8_readText_71 (by decide) rfl (by omega) (fun c_71 => ?_) (fun c_71 => ?_)
          · refine ce_aload_n dX8_readText_79 rfl ?_
            refine ce_getIv dX8_readText_80 fRX8_119 hD.1 (hcg1).2.1 ?_
            refine ce_iret dX8_readText_83 rfl rfl (by decide) (by decide) ?_
            exact ⟨_, rfl, rfl, rfl, _, _, hcg1⟩
          · omega
        · omega
      · refine ce_aload_n dX8_readText_32 rfl ?_
        refine ce_aload_n dX8_readText_33 rfl ?_
        refine ce_bipush (v := nI (67)) dX8_readText_34 (by decide) ?_
        refine ce_cVp dX8_readText_36 hX8_isNext kRX8_135 ((show (if 0 < len ∧ T 0 = 67 then (1 : Int32) else 0) = nI (1) from if_pos (by omega)) ▸ m_X8_isNext d len 0 (kq kv_0) T hD h120 (by omega) hch hT 1 h 67 (by decide)) rfl rfl hD.1 rfl (by decide) (Nat.le_of_ble_eq_true rfl) ?_
        refine ce_cVu dX8_readText_39 hX8_accept kRX8_128 (m_X8_accept11 d len (0) (kq kv_0) T hD h120 (by omega) hch hT h) rfl rfl hD.1 rfl (by decide) (Nat.le_of_ble_eq_true rfl) (fun cg1 hcg1 => ?_)
        have e : kx_read T len = kx_loop T len 120 kv_0 1 := if_neg hC
        rw [e]
        exact w_X8_readText d len T hD h120 hch hT (len + 1) cg1 120 1 kv_0 (by omega) (by omega) (by omega) cl_0 hcg1
    · refine ce_aload_n dX8_readText_19 rfl ?_
      refine ce_getR dX8_readText_20 fRX8_13 hD.1 hD.2.1.2.1 ?_
      refine ce_iload_n dX8_readText_23 rfl ?_
      refine ce_iconst (v := nI (0)) dX8_readText_24 (by decide) ?_
      refine ce_iast dX8_readText_25 (hD.2.2.2.1).1 rfl (hD.2.2.2.1).2 (by omega) (by decide) ?_
      generalize hcg1 : ce_up g (d + 2) (i) (nI (0)) = cg1
      refine ce_iinc (v := nI (i + 1)) dX8_readText_26 rfl (ce_inc1 _) (Nat.le_of_ble_eq_true rfl) rfl ?_
      refine ce_goto (tgt := 12) dX8_readText_29 (by decide) ?_
      refine ih (i + 1) cg1 (by omega) (by omega) (fun m hm9 => ?_) ⟨by rw [← hcg1, ce_up_ne _ _ _ (by omega)]; exact hz.1, by rw [← hcg1, ce_up_ne _ _ _ (by omega)]; exact hz.2.1, by rw [← hcg1, ce_up_ne _ _ _ (by omega)]; exact hz.2.2.1, ⟨by rw [← hcg1, ce_up_ne _ _ _ (by omega)]; exact hz.2.2.2.1.1, by rw [← hcg1, ce_up_ne _ _ _ (by omega)]; exact hz.2.2.2.1.2⟩, fun x h1 h2 => by rw [← hcg1, ce_up_ne _ _ _ h2]; exact hz.2.2.2.2 x h1 h2⟩
      rw [← hcg1, ce_up_eq]
      unfold upd
      by_cases e : m = i
      · rw [if_pos e]
      · rw [if_neg e]; exact hr m (by omega)
set_option maxHeartbeats 2000000 in
set_option maxRecDepth 20000 in
theorem m_X8_readText {σ : ce_S} {g0 : ce_D} (d len : Nat) (T : Nat → Nat) (hD : ce_LM σ d) (h120 : len ≤ 120) (hch : ∀ i, i < len → g0 (d + 1) i = nI (T i)) (hT : ∀ i, i < len → T i < 256) (hl : g0 d 2 = nI len) : ce_CT (ce_r 4) mX8_readText [.ref (d)] σ g0 (ce_rv σ (fun z9 g1 => z9 = ce_o (kx_read T len).1 ∧ ∃ q8 q9, kr_st g0 g1 d len q8 q9 (kq (kx_read T len).2))) ce_no := by
  refine ce_enter (by decide) rfl (Nat.le_of_ble_eq_true rfl) (L := [some (.ref (d)), none]) rfl ?_
  refine ce_aload_n dX8_readText_0 rfl ?_
  refine ce_iconst (v := nI (0)) dX8_readText_1 (by decide) ?_
  refine ce_putI dX8_readText_2 pRX8_119 hD.1 rfl rfl ?_
  generalize hcg1 : ce_up g0 (d) 3 (nI (0)) = cg1
  refine ce_aload_n dX8_readText_5 rfl ?_
  refine ce_iconst (v := nI (1)) dX8_readText_6 (by decide) ?_
  refine ce_putI dX8_readText_7 pRX8_122 hD.1 rfl rfl ?_
  generalize hcg2 : ce_up cg1 (d) 4 (nI (1)) = cg2
  refine ce_iconst (v := nI (0)) dX8_readText_10 (by decide) ?_
  refine ce_istore_n dX8_readText_11 (Nat.le_of_ble_eq_true rfl) rfl ?_
  exact w0_X8_readText d len T hD h120 hch hT 190 0 cg2 (by omega) (by omega) (fun m hm => absurd hm (Nat.not_lt_zero m)) ⟨by rw [← hcg2, ce_up_j (by decide), ← hcg1, ce_up_j (by decide)]; exact hl, by rw [← hcg2, ce_up_j (by decide), ← hcg1]; exact ce_up_at _ _ _ _, by rw [← hcg2]; exact ce_up_at _ _ _ _, ⟨by rw [← hcg2, ce_up_j (by decide), ← hcg1, ce_up_j (by decide)], by rw [← hcg2, ce_up_j (by decide), ← hcg1, ce_up_j (by decide)]⟩, fun x h1 _ => by rw [← hcg2, ce_up_ne _ _ _ h1, ← hcg1, ce_up_ne _ _ _ h1]⟩
