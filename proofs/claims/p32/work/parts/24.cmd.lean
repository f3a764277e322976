set_option maxHeartbeats 2000000 in
set_option maxRecDepth 20000 in
theorem m_X4_obeys0 {σ : ce_S} {g : ce_D} (r : Nat) (K : ce_V) (O : Nat → Int32) (hL : ce_LR σ r) (hr : ce_rC g (r + 1) K O) (hk : kv_cl K) (G : Nat) (hG : G < 100000) (hq : G / 10000 = 0) : ce_CT (ce_r 5) mX4_obeys [.ref (r), .int (nI (G))] σ g (ce_rv σ (fun x g' => x = (if kt_f K G = 0 then 1 else 0) ∧ ce_rC g' (r + 1) (ks_ite (kt_f K G) (kt_K K G) K) (ks_ite (kt_f K G) (kt_O K O G) O) ∧ ce_fr (r + 1) (r + 1 + 20) g g')) ce_no := by
  have hB := hk.i7
  have hM := hk.me
  have hW := hk.wi
  refine ce_enter (by decide) rfl (Nat.le_of_ble_eq_true rfl) (L := [some (.ref (r)), some (.int (nI (G))), none, none, none]) rfl ?_
  refine ce_iload_n dX4_obeys_0 rfl ?_
  refine ce_sipush (v := nI (1000)) dX4_obeys_1 (by decide) ?_
  refine ce_idiv (z := nI ((G) / (1000))) dX4_obeys_4 (nI_ne0 (by omega) (by omega)) (pk_div (by omega) (by omega) (by omega)) ?_
  refine ce_bipush (v := nI (10)) dX4_obeys_5 (by decide) ?_
  refine ce_irem (z := nI (((G) / (1000)) % (10))) dX4_obeys_7 (nI_ne0 (by omega) (by omega)) (pk_rem (by omega) (by omega) (by omega)) ?_
  refine ce_istore_n dX4_obeys_8 (Nat.le_of_ble_eq_true rfl) rfl ?_
  generalize ha : G / 1000 % 10 = a
  have ha2 : a < 10 := by omega
  refine ce_iload_n dX4_obeys_9 rfl ?_
  refine ce_bipush (v := nI (100)) dX4_obeys_10 (by decide) ?_
  refine ce_idiv (z := nI ((G) / (100))) dX4_obeys_12 (nI_ne0 (by omega) (by omega)) (pk_div (by omega) (by omega) (by omega)) ?_
  refine ce_bipush (v := nI (10)) dX4_obeys_13 (by decide) ?_
  refine ce_irem (z := nI (((G) / (100)) % (10))) dX4_obeys_15 (nI_ne0 (by omega) (by omega)) (pk_rem (by omega) (by omega) (by omega)) ?_
  refine ce_istore_n dX4_obeys_16 (Nat.le_of_ble_eq_true rfl) rfl ?_
  generalize hb : G / 100 % 10 = b
  have hb2 : b < 10 := by omega
  refine ce_iload_n dX4_obeys_17 rfl ?_
  refine ce_bipush (v := nI (100)) dX4_obeys_18 (by decide) ?_
  refine ce_irem (z := nI ((G) % (100))) dX4_obeys_20 (nI_ne0 (by omega) (by omega)) (pk_rem (by omega) (by omega) (by omega)) ?_
  refine ce_istore dX4_obeys_21 (Nat.le_of_ble_eq_true rfl) rfl ?_
  generalize he : G % 100 = e
  have he2 : e < 100 := by omega
  refine ce_iload_n dX4_obeys_23 rfl ?_
  refine ce_sipush (v := nI (10000)) dX4_obeys_24 (by decide) ?_
  refine ce_idiv (z := nI (0)) dX4_obeys_27 (nI_ne0 (by omega) (by omega)) ((pk_div (by omega) (by omega) (by omega)).trans (congrArg nI hq)) ?_
  refine ce_tableOut (tgt := 261) dX4_obeys_28 (by decide) (by decide) ?_
  refine ce_iconst (v := nI (0)) dX4_obeys_261 (by decide) ?_
  refine ce_iret dX4_obeys_262 rfl (by first | rfl | decide | (split <;> rfl)) (by decide) (by decide) ?_
  have eK : kt_K K G = K := by unfold kt_K; rw [hq]; try rfl
  have eO : kt_O K O G = O := by unfold kt_O; rw [hq]; try rfl
  have eF : kt_f K G = 9 := by unfold kt_f; rw [hq]; try rfl
  rw [eF]
  exact ⟨_, rfl, rfl, rfl, hr, ce_fr.rf⟩
set_option maxHeartbeats 2000000 in
set_option maxRecDepth 20000 in
theorem m_X4_obeys1 {σ : ce_S} {g : ce_D} (r : Nat) (K : ce_V) (O : Nat → Int32) (hL : ce_LR σ r) (hr : ce_rC g (r + 1) K O) (hk : kv_cl K) (G : Nat) (hG : G < 100000) (hq : G / 10000 = 1) : ce_CT (ce_r 5) mX4_obeys [.ref (r), .int (nI (G))] σ g (ce_rv σ (fun x g' => x = (if kt_f K G = 0 then 1 else 0) ∧ ce_rC g' (r + 1) (ks_ite (kt_f K G) (kt_K K G) K) (ks_ite (kt_f K G) (kt_O K O G) O) ∧ ce_fr (r + 1) (r + 1 + 20) g g')) ce_no := by
  have hB := hk.i7
  have hM := hk.me
  have hW := hk.wi
  refine ce_enter (by decide) rfl (Nat.le_of_ble_eq_true rfl) (L := [some (.ref (r)), some (.int (nI (G))), none, none, none]) rfl ?_
  refine ce_iload_n dX4_obeys_0 rfl ?_
  refine ce_sipush (v := nI (1000)) dX4_obeys_1 (by decide) ?_
  refine ce_idiv (z := nI ((G) / (1000))) dX4_obeys_4 (nI_ne0 (by omega) (by omega)) (pk_div (by omega) (by omega) (by omega)) ?_
  refine ce_bipush (v := nI (10)) dX4_obeys_5 (by decide) ?_
  refine ce_irem (z := nI (((G) / (1000)) % (10))) dX4_obeys_7 (nI_ne0 (by omega) (by omega)) (pk_rem (by omega) (by omega) (by omega)) ?_
  refine ce_istore_n dX4_obeys_8 (Nat.le_of_ble_eq_true rfl) rfl ?_
  generalize ha : G / 1000 % 10 = a
  have ha2 : a < 10 := by omega
  refine ce_iload_n dX4_obeys_9 rfl ?_
  refine ce_bipush (v := nI (100)) dX4_obeys_10 (by decide) ?_
  refine ce_idiv (z := nI ((G) / (100))) dX4_obeys_12 (nI_ne0 (by omega) (by omega)) (pk_div (by omega) (by omega) (by omega)) ?_
  refine ce_bipush (v := nI (10)) dX4_obeys_13 (by decide) ?_
  refine ce_irem (z := nI (((G) / (100)) % (10))) dX4_obeys_15 (nI_ne0 (by omega) (by omega)) (pk_rem (by omega) (by omega) (by omega)) ?_
  refine ce_istore_n dX4_obeys_16 (Nat.le_of_ble_eq_true rfl) rfl ?_
  generalize hb : G / 100 % 10 = b
  have hb2 : b < 10 := by omega
  refine ce_iload_n dX4_obeys_17 rfl ?_
  refine ce_bipush (v := nI (100)) dX4_obeys_18 (by decide) ?_
  refine ce_irem (z := nI ((G) % (100))) dX4_obeys_20 (nI_ne0 (by omega) (by omega)) (pk_rem (by omega) (by omega) (by omega)) ?_
  refine ce_istore dX4_obeys_21 (Nat.le_of_ble_eq_true rfl) rfl ?_
  generalize he : G % 100 = e
  have he2 : e < 100 := by omega
  refine ce_iload_n dX4_obeys_23 rfl ?_
  refine ce_sipush (v := nI (10000)) dX4_obeys_24 (by decide) ?_
  refine ce_idiv (z := nI (1)) dX4_obeys_27 (nI_ne0 (by omega) (by omega)) ((pk_div (by omega) (by omega) (by omega)).trans (congrArg nI hq)) ?_
  refine ce_tableIn (off := 52) (tgt := 80) dX4_obeys_28 (by decide) (by decide) (by decide) (by decide) ?_
  refine ce_aload_n dX4_obeys_80 rfl ?_
  refine ce_iload_n dX4_obeys_81 rfl ?_
  refine ce_iload_n dX4_obeys_82 rfl ?_
  refine ce_iload dX4_obeys_83 rfl ?_
  refine ce_cVr dX4_obeys_85 hX4_orders kRX4_22 (m_X4_orders r K O hL hr hk (a) (b) (e) (by omega) (by omega) (by omega) (kv_ordF K (nI (a)) (nI (b)) (nI (e))) rfl (kv_F3 K (nI (a)) (nI (b)) (nI (a)) (nI (e))).1) rfl rfl hL.1 rfl (by decide) (Nat.le_of_ble_eq_true rfl) (fun rcg1 cg1 hcg1 => ?_)
  obtain ⟨rfl, hcg12, hcg13⟩ := hcg1
  refine ce_iret dX4_obeys_88 rfl (by first | rfl | decide | (split <;> rfl)) (by decide) (by decide) ?_
  have eK : kt_K K G = kv_ord K a b e := by unfold kt_K; rw [hq, ha, hb, he]; try rfl
  have eO : kt_O K O G = O := by unfold kt_O; rw [hq]; try rfl
  have eF : kt_f K G = kv_ordF K (nI a) (nI b) (nI e) := by unfold kt_f; rw [hq, ha, hb, he]; try rfl
  rw [eF, eK, eO]
  exact ⟨_, rfl, rfl, rfl, hcg12, hcg13⟩
set_option maxHeartbeats 2000000 in
set_option maxRecDepth 20000 in
theorem m_X4_obeys2 {σ : ce_S} {g : ce_D} (r : Nat) (K : ce_V) (O : Nat → Int32) (hL : ce_LR σ r) (hr : ce_rC g (r + 1) K O) (hk : kv_cl K) (G : Nat) (hG : G < 100000) (hq : G / 10000 = 2) : ce_CT (ce_r 5) mX4_obeys [.ref (r), .int (nI (G))] σ g (ce_rv σ (fun x g' => x = (if kt_f K G = 0 then 1 else 0) ∧ ce_rC g' (r + 1) (ks_ite (kt_f K G) (kt_K K G) K) (ks_ite (kt_f K G) (kt_O K O G) O) ∧ ce_fr (r + 1) (r + 1 + 20) g g')) ce_no := by
  have hB := hk.i7
  have hM := hk.me
  have hW := hk.wi
  refine ce_enter (by decide) rfl (Nat.le_of_ble_eq_true rfl) (L := [some (.ref (r)), some (.int (nI (G))), none, none, none]) rfl ?_
  refine ce_iload_n dX4_obeys_0 rfl ?_
  refine ce_sipush (v := nI (1000)) dX4_obeys_1 (by decide) ?_
  refine ce_idiv (z := nI ((G) / (1000))) dX4_obeys_4 (nI_ne0 (by omega) (by omega)) (pk_div (by omega) (by omega) (by omega)) ?_
  refine ce_bipush (v := nI (10)) dX4_obeys_5 (by decide) ?_
  refine ce_irem (z := nI (((G) / (1000)) % (10))) dX4_obeys_7 (nI_ne0 (by omega) (by omega)) (pk_rem (by omega) (by omega) (by omega)) ?_
  refine ce_istore_n dX4_obeys_8 (Nat.le_of_ble_eq_true rfl) rfl ?_
  generalize ha : G / 1000 % 10 = a
  have ha2 : a < 10 := by omega
  refine ce_iload_n dX4_obeys_9 rfl ?_
  refine ce_bipush (v := nI (100)) dX4_obeys_10 (by decide) ?_
  refine ce_idiv (z := nI ((G) / (100))) dX4_obeys_12 (nI_ne0 (by omega) (by omega)) (pk_div (by omega) (by omega) (by omega)) ?_
  refine ce_bipush (v := nI (10)) dX4_obeys_13 (by decide) ?_
  refine ce_irem (z := nI (((G) / (100)) % (10))) dX4_obeys_15 (nI_ne0 (by omega) (by omega)) (pk_rem (by omega) (by omega) (by omega)) ?_
  refine ce_istore_n dX4_obeys_16 (Nat.le_of_ble_eq_true rfl) rfl ?_
  generalize hb : G / 100 % 10 = b
  have hb2 : b < 10 := by omega
  refine ce_iload_n dX4_obeys_17 rfl ?_
  refine ce_bipush (v := nI (100)) dX4_obeys_18 (by decide) ?_
  refine ce_irem (z := nI ((G) % (100))) dX4_obeys_20 (nI_ne0 (by omega) (by omega)) (pk_rem (by omega) (by omega) (by omega)) ?_
  refine ce_istore dX4_obeys_21 (Nat.le_of_ble_eq_true rfl) rfl ?_
  generalize he : G % 100 = e
  have he2 : e < 100 := by omega
  refine ce_iload_n dX4_obeys_23 rfl ?_
  refine ce_sipush (v := nI (10000)) dX4_obeys_24 (by decide) ?_
  refine ce_idiv (z := nI (2)) dX4_obeys_27 (nI_ne0 (by omega) (by omega)) ((pk_div (by omega) (by omega) (by omega)).trans (congrArg nI hq)) ?_
  refine ce_tableIn (off := 61) (tgt := 89) dX4_obeys_28 (by decide) (by decide) (by decide) (by decide) ?_
  refine ce_iload_n dX4_obeys_89 rfl ?_
  refine ce_if_neN (tgt := 110) dX4_obeys_90 (by decide) rfl (by omega) (fun c_90 => ?_) (fun c_90 => ?_)
  · refine ce_iconst (v := nI (0)) dX4_obeys_110 (by decide) ?_
    refine ce_iret dX4_obeys_111 rfl (by first | rfl | decide | (split <;> rfl)) (by decide) (by decide) ?_
    have eK : kt_K K G = kv_all K a := by unfold kt_K; rw [hq, ha]; try rfl
    have eO : kt_O K O G = ko_all K a O := by unfold kt_O; rw [hq, ha]; try rfl
    have eF : kt_f K G = 9 := (show kt_f K G = (if b = 0 ∧ e = 0 then kv_allF K (nI a) else 9) by unfold kt_f; rw [hq, ha, hb, he]; try rfl).trans (if_neg (by omega))
    rw [eF]
    exact ⟨_, rfl, rfl, rfl, hr, ce_fr.rf⟩
  · refine ce_iload dX4_obeys_93 rfl ?_
    refine ce_if_neN (tgt := 110) dX4_obeys_95 (by decide) rfl (by omega) (fun c_95 => ?_) (fun c_95 => ?_)
    · refine ce_iconst (v := nI (0)) dX4_obeys_110 (by decide) ?_
      refine ce_iret dX4_obeys_111 rfl (by first | rfl | decide | (split <;> rfl)) (by decide) (by decide) ?_
      have eK : kt_K K G = kv_all K a := by unfold kt_K; rw [hq, ha]; try rfl
      have eO : kt_O K O G = ko_all K a O := by unfold kt_O; rw [hq, ha]; try rfl
      have eF : kt_f K G = 9 := (show kt_f K G = (if b = 0 ∧ e = 0 then kv_allF K (nI a) else 9) by unfold kt_f; rw [hq, ha, hb, he]; try rfl).trans (if_neg (by omega))
      rw [eF]
      exact ⟨_, rfl, rfl, rfl, hr, ce_fr.rf⟩
    · refine ce_aload_n dX4_obeys_98 rfl ?_
      refine ce_iload_n dX4_obeys_99 rfl ?_
      refine ce_cVr dX4_obeys_100 hX4_allocates kRX4_26 (m_X4_allocates r K O hL hr hk (a) (by omega) (kv_allF K (nI (a))) rfl (kv_F3 K (nI (a)) (nI (a)) (nI (a)) (nI (a))).2.1) rfl rfl hL.1 rfl (by decide) (Nat.le_of_ble_eq_true rfl) (fun rcg1 cg1 hcg1 => ?_)
      obtain ⟨rfl, hcg12, hcg13⟩ := hcg1
      refine ce_if_eqB (tgt := 110) dX4_obeys_103 (by decide) rfl (fun c_103 => ?_) (fun c_103 => ?_)
      · refine ce_iconst (v := nI (0)) dX4_obeys_110 (by decide) ?_
        refine ce_iret dX4_obeys_111 rfl (by first | rfl | decide | (split <;> rfl)) (by decide) (by decide) ?_
        have eK : kt_K K G = kv_all K a := by unfold kt_K; rw [hq, ha]; try rfl
        have eO : kt_O K O G = ko_all K a O := by unfold kt_O; rw [hq, ha]; try rfl
        have eF : kt_f K G = kv_allF K (nI a) := (show kt_f K G = (if b = 0 ∧ e = 0 then kv_allF K (nI a) else 9) by unfold kt_f; rw [hq, ha, hb, he]; try rfl).trans (if_pos ⟨by omega, by omega⟩)
        rw [eF, eK, eO]
        exact ⟨_, rfl, rfl, (if_neg c_103).symm, hcg12, hcg13⟩
      · refine ce_iconst (v := nI (1)) dX4_obeys_106 (by decide) ?_
        refine ce_goto (tgt := 111) dX4_obeys_107 (by decide) ?_
        refine ce_iret dX4_obeys_111 rfl (by first | rfl | decide | (split <;> rfl)) (by decide) (by decide) ?_
        have eK : kt_K K G = kv_all K a := by unfold kt_K; rw [hq, ha]; try rfl
        have eO : kt_O K O G = ko_all K a O := by unfold kt_O; rw [hq, ha]; try rfl
        have eF : kt_f K G = kv_allF K (nI a) := (show kt_f K G = (if b = 0 ∧ e = 0 then kv_allF K (nI a) else 9) by unfold kt_f; rw [hq, ha, hb, he]; try rfl).trans (if_pos ⟨by omega, by omega⟩)
        rw [eF, eK, eO]
        exact ⟨_, rfl, rfl, (if_pos c_103).symm, hcg12, hcg13⟩
set_option maxHeartbeats 2000000 in
set_option maxRecDepth 20000 in
theorem m_X4_obeys3 {σ : ce_S} {g : ce_D} (r : Nat) (K : ce_V) (O : Nat → Int32) (hL : ce_LR σ r) (hr : ce_rC g (r + 1) K O) (hk : kv_cl K) (G : Nat) (hG : G < 100000) (hq : G / 10000 = 3) : ce_CT (ce_r 5) mX4_obeys [.ref (r), .int (nI (G))] σ g (ce_rv σ (fun x g' => x = (if kt_f K G = 0 then 1 else 0) ∧ ce_rC g' (r + 1) (ks_ite (kt_f K G) (kt_K K G) K) (ks_ite (kt_f K G) (kt_O K O G) O) ∧ ce_fr (r + 1) (r + 1 + 20) g g')) ce_no := by
  have hB := hk.i7
  have hM := hk.me
  have hW := hk.wi
  refine ce_enter (by decide) rfl (Nat.le_of_ble_eq_true rfl) (L := [some (.ref (r)), some (.int (nI (G))), none, none, none]) rfl ?_
  refine ce_iload_n dX4_obeys_0 rfl ?_
  refine ce_sipush (v := nI (1000)) dX4_obeys_1 (by decide) ?_
  refine ce_idiv (z := nI ((G) / (1000))) dX4_obeys_4 (nI_ne0 (by omega) (by omega)) (pk_div (by omega) (by omega) (by omega)) ?_
  refine ce_bipush (v := nI (10)) dX4_obeys_5 (by decide) ?_
  refine ce_irem (z := nI (((G) / (1000)) % (10))) dX4_obeys_7 (nI_ne0 (by omega) (by omega)) (pk_rem (by omega) (by omega) (by omega)) ?_
  refine ce_istore_n dX4_obeys_8 (Nat.le_of_ble_eq_true rfl) rfl ?_
  generalize ha : G / 1000 % 10 = a
  have ha2 : a < 10 := by omega
  refine ce_iload_n dX4_obeys_9 rfl ?_
  refine ce_bipush (v := nI (100)) dX4_obeys_10 (by decide) ?_
  refine ce_idiv (z := nI ((G) / (100))) dX4_obeys_12 (nI_ne0 (by omega) (by omega)) (pk_div (by omega) (by omega) (by omega)) ?_
  refine ce_bipush (v := nI (10)) dX4_obeys_13 (by decide) ?_
  refine ce_irem (z := nI (((G) / (100)) % (10))) dX4_obeys_15 (nI_ne0 (by omega) (by omega)) (pk_rem (by omega) (by omega) (by omega)) ?_
  refine ce_istore_n dX4_obeys_16 (Nat.le_of_ble_eq_true rfl) rfl ?_
  generalize hb : G / 100 % 10 = b
  have hb2 : b < 10 := by omega
  refine ce_iload_n dX4_obeys_17 rfl ?_
  refine ce_bipush (v := nI (100)) dX4_obeys_18 (by decide) ?_
  refine ce_irem (z := nI ((G) % (100))) dX4_obeys_20 (nI_ne0 (by omega) (by omega)) (pk_rem (by omega) (by omega) (by omega)) ?_
  refine ce_istore dX4_obeys_21 (Nat.le_of_ble_eq_true rfl) rfl ?_
  generalize he : G % 100 = e
  have he2 : e < 100 := by omega
  refine ce_iload_n dX4_obeys_23 rfl ?_
  refine ce_sipush (v := nI (10000)) dX4_obeys_24 (by decide) ?_
  refine ce_idiv (z := nI (3)) dX4_obeys_27 (nI_ne0 (by omega) (by omega)) ((pk_div (by omega) (by omega) (by omega)).trans (congrArg nI hq)) ?_
  refine ce_tableIn (off := 84) (tgt := 112) dX4_obeys_28 (by decide) (by decide) (by decide) (by decide) ?_
  refine ce_iload_n dX4_obeys_112 rfl ?_
  refine ce_if_neN (tgt := 133) dX4_obeys_113 (by decide) rfl (by omega) (fun c_113 => ?_) (fun c_113 => ?_)
  · refine ce_iconst (v := nI (0)) dX4_obeys_133 (by decide) ?_
    refine ce_iret dX4_obeys_134 rfl (by first | rfl | decide | (split <;> rfl)) (by decide) (by decide) ?_
    have eK : kt_K K G = kv_bri K a := by unfold kt_K; rw [hq, ha]; try rfl
    have eO : kt_O K O G = ko_bri K a O := by unfold kt_O; rw [hq, ha]; try rfl
    have eF : kt_f K G = 9 := (show kt_f K G = (if b = 0 ∧ e = 0 then kv_delF K (nI a) else 9) by unfold kt_f; rw [hq, ha, hb, he]; try rfl).trans (if_neg (by omega))
    rw [eF]
    exact ⟨_, rfl, rfl, rfl, hr, ce_fr.rf⟩
  · refine ce_iload dX4_obeys_116 rfl ?_
    refine ce_if_neN (tgt := 133) dX4_obeys_118 (by decide) rfl (by omega) (fun c_118 => ?_) (fun c_118 => ?_)
    · refine ce_iconst (v := nI (0)) dX4_obeys_133 (by decide) ?_
      refine ce_iret dX4_obeys_134 rfl (by first | rfl | decide | (split <;> rfl)) (by decide) (by decide) ?_
      have eK : kt_K K G = kv_bri K a := by unfold kt_K; rw [hq, ha]; try rfl
      have eO : kt_O K O G = ko_bri K a O := by unfold kt_O; rw [hq, ha]; try rfl
      have eF : kt_f K G = 9 := (show kt_f K G = (if b = 0 ∧ e = 0 then kv_delF K (nI a) else 9) by unfold kt_f; rw [hq, ha, hb, he]; try rfl).trans (if_neg (by omega))
      rw [eF]
      exact ⟨_, rfl, rfl, rfl, hr, ce_fr.rf⟩
    · refine ce_aload_n dX4_obeys_121 rfl ?_
      refine ce_iload_n dX4_obeys_122 rfl ?_
      refine ce_cVr dX4_obeys_123 hX4_delivers kRX4_30 (m_X4_delivers r K O hL hr hk (a) (by omega) (kv_delF K (nI (a))) rfl (kv_F3 K (nI (a)) (nI (a)) (nI (a)) (nI (a))).2.2.1) rfl rfl hL.1 rfl (by decide) (Nat.le_of_ble_eq_true rfl) (fun rcg1 cg1 hcg1 => ?_)
      obtain ⟨rfl, hcg12, hcg13⟩ := hcg1
      refine ce_if_eqB (tgt := 133) dX4_obeys_126 (by decide) rfl (fun c_126 => ?_) (fun c_126 => ?_)
      · refine ce_iconst (v := nI (0)) dX4_obeys_133 (by decide) ?_
        refine ce_iret dX4_obeys_134 rfl (by first | rfl | decide | (split <;> rfl)) (by decide) (by decide) ?_
        have eK : kt_K K G = kv_bri K a := by unfold kt_K; rw [hq, ha]; try rfl
        have eO : kt_O K O G = ko_bri K a O := by unfold kt_O; rw [hq, ha]; try rfl
        have eF : kt_f K G = kv_delF K (nI a) := (show kt_f K G = (if b = 0 ∧ e = 0 then kv_delF K (nI a) else 9) by unfold kt_f; rw [hq, ha, hb, he]; try rfl).trans (if_pos ⟨by omega, by omega⟩)
        rw [eF, eK, eO]
        exact ⟨_, rfl, rfl, (if_neg c_126).symm, hcg12, hcg13⟩
      · refine ce_iconst (v := nI (1)) dX4_obeys_129 (by decide) ?_
        refine ce_goto (tgt := 134) dX4_obeys_130 (by decide) ?_
        refine ce_iret dX4_obeys_134 rfl (by first | rfl | decide | (split <;> rfl)) (by decide) (by decide) ?_
        have eK : kt_K K G = kv_bri K a := by unfold kt_K; rw [hq, ha]; try rfl
        have eO : kt_O K O G = ko_bri K a O := by unfold kt_O; rw [hq, ha]; try rfl
        have eF : kt_f K G = kv_delF K (nI a) := (show kt_f K G = (if b = 0 ∧ e = 0 then kv_delF K (nI a) else 9) by unfold kt_f; rw [hq, ha, hb, he]; try rfl).trans (if_pos ⟨by omega, by omega⟩)
        rw [eF, eK, eO]
        exact ⟨_, rfl, rfl, (if_pos c_126).symm, hcg12, hcg13⟩
set_option maxHeartbeats 2000000 in
set_option maxRecDepth 20000 in
theorem m_X4_obeys4 {σ : ce_S} {g : ce_D} (r : Nat) (K : ce_V) (O : Nat → Int32) (hL : ce_LR σ r) (hr : ce_rC g (r + 1) K O) (hk : kv_cl K) (G : Nat) (hG : G < 100000) (hq : G / 10000 = 4) : ce_CT (ce_r 5) mX4_obeys [.ref (r), .int (nI (G))] σ g (ce_rv σ (fun x g' => x = (if kt_f K G = 0 then 1 else 0) ∧ ce_rC g' (r + 1) (ks_ite (kt_f K G) (kt_K K G) K) (ks_ite (kt_f K G) (kt_O K O G) O) ∧ ce_fr (r + 1) (r + 1 + 20) g g')) ce_no := by
  have hB := hk.i7
  have hM := hk.me
  have hW := hk.wi
  refine ce_enter (by decide) rfl (Nat.le_of_ble_eq_true rfl) (L := [some (.ref (r)), some (.int (nI (G))), none, none, none]) rfl ?_
  refine ce_iload_n dX4_obeys_0 rfl ?_
  refine ce_sipush (v := nI (1000)) dX4_obeys_1 (by decide) ?_
  refine ce_idiv (z := nI ((G) / (1000))) dX4_obeys_4 (nI_ne0 (by omega) (by omega)) (pk_div (by omega) (by omega) (by omega)) ?_
  refine ce_bipush (v := nI (10)) dX4_obeys_5 (by decide) ?_
  refine ce_irem (z := nI (((G) / (1000)) % (10))) dX4_obeys_7 (nI_ne0 (by omega) (by omega)) (pk_rem (by omega) (by omega) (by omega)) ?_
  refine ce_istore_n dX4_obeys_8 (Nat.le_of_ble_eq_true rfl) rfl ?_
  generalize ha : G / 1000 % 10 = a
  have ha2 : a < 10 := by omega
  refine ce_iload_n dX4_obeys_9 rfl ?_
  refine ce_bipush (v := nI (100)) dX4_obeys_10 (by decide) ?_
  refine ce_idiv (z := nI ((G) / (100))) dX4_obeys_12 (nI_ne0 (by omega) (by omega)) (pk_div (by omega) (by omega) (by omega)) ?_
  refine ce_bipush (v := nI (10)) dX4_obeys_13 (by decide) ?_
  refine ce_irem (z := nI (((G) / (100)) % (10))) dX4_obeys_15 (nI_ne0 (by omega) (by omega)) (pk_rem (by omega) (by omega) (by omega)) ?_
  refine ce_istore_n dX4_obeys_16 (Nat.le_of_ble_eq_true rfl) rfl ?_
  generalize hb : G / 100 % 10 = b
  have hb2 : b < 10 := by omega
  refine ce_iload_n dX4_obeys_17 rfl ?_
  refine ce_bipush (v := nI (100)) dX4_obeys_18 (by decide) ?_
  refine ce_irem (z := nI ((G) % (100))) dX4_obeys_20 (nI_ne0 (by omega) (by omega)) (pk_rem (by omega) (by omega) (by omega)) ?_
  refine ce_istore dX4_obeys_21 (Nat.le_of_ble_eq_true rfl) rfl ?_
  generalize he : G % 100 = e
  have he2 : e < 100 := by omega
  refine ce_iload_n dX4_obeys_23 rfl ?_
  refine ce_sipush (v := nI (10000)) dX4_obeys_24 (by decide) ?_
  refine ce_idiv (z := nI (4)) dX4_obeys_27 (nI_ne0 (by omega) (by omega)) ((pk_div (by omega) (by omega) (by omega)).trans (congrArg nI hq)) ?_
  refine ce_tableIn (off := 107) (tgt := 135) dX4_obeys_28 (by decide) (by decide) (by decide) (by decide) ?_
  refine ce_aload_n dX4_obeys_135 rfl ?_
  refine ce_iload_n dX4_obeys_136 rfl ?_
  refine ce_iload_n dX4_obeys_137 rfl ?_
  refine ce_iload dX4_obeys_138 rfl ?_
  refine ce_cVr dX4_obeys_140 hX4_drinks kRX4_33 (m_X4_drinks r K O hL hr hk (a) (b) (e) (by omega) (by omega) (by omega) (kv_driF K (nI (a)) (nI (b)) (nI (e))) rfl (kv_F3 K (nI (a)) (nI (b)) (nI (a)) (nI (e))).2.2.2.1) rfl rfl hL.1 rfl (by decide) (Nat.le_of_ble_eq_true rfl) (fun rcg1 cg1 hcg1 => ?_)
  obtain ⟨rfl, hcg12, hcg13⟩ := hcg1
  refine ce_iret dX4_obeys_143 rfl (by first | rfl | decide | (split <;> rfl)) (by decide) (by decide) ?_
  have eK : kt_K K G = kv_dri K a b e := by unfold kt_K; rw [hq, ha, hb, he]; try rfl
  have eO : kt_O K O G = O := by unfold kt_O; rw [hq]; try rfl
  have eF : kt_f K G = kv_driF K (nI a) (nI b) (nI e) := by unfold kt_f; rw [hq, ha, hb, he]; try rfl
  rw [eF, eK, eO]
  exact ⟨_, rfl, rfl, rfl, hcg12, hcg13⟩
set_option maxHeartbeats 2000000 in
set_option maxRecDepth 20000 in
theorem m_X4_obeys5 {σ : ce_S} {g : ce_D} (r : Nat) (K : ce_V) (O : Nat → Int32) (hL : ce_LR σ r) (hr : ce_rC g (r + 1) K O) (hk : kv_cl K) (G : Nat) (hG : G < 100000) (hq : G / 10000 = 5) : ce_CT (ce_r 5) mX4_obeys [.ref (r), .int (nI (G))] σ g (ce_rv σ (fun x g' => x = (if kt_f K G = 0 then 1 else 0) ∧ ce_rC g' (r + 1) (ks_ite (kt_f K G) (kt_K K G) K) (ks_ite (kt_f K G) (kt_O K O G) O) ∧ ce_fr (r + 1) (r + 1 + 20) g g')) ce_no := by
  have hB := hk.i7
  have hM := hk.me
  have hW := hk.wi
  refine ce_enter (by decide) rfl (Nat.le_of_ble_eq_true rfl) (L := [some (.ref (r)), some (.int (nI (G))), none, none, none]) rfl ?_
  refine ce_iload_n dX4_obeys_0 rfl ?_
  refine ce_sipush (v := nI (1000)) dX4_obeys_1 (by decide) ?_
  refine ce_idiv (z := nI ((G) / (1000))) dX4_obeys_4 (nI_ne0 (by omega) (by omega)) (pk_div (by omega) (by omega) (by omega)) ?_
  refine ce_bipush (v := nI (10)) dX4_obeys_5 (by decide) ?_
  refine ce_irem (z := nI (((G) / (1000)) % (10))) dX4_obeys_7 (nI_ne0 (by omega) (by omega)) (pk_rem (by omega) (by omega) (by omega)) ?_
  refine ce_istore_n dX4_obeys_8 (Nat.le_of_ble_eq_true rfl) rfl ?_
  generalize ha : G / 1000 % 10 = a
  have ha2 : a < 10 := by omega
  refine ce_iload_n dX4_obeys_9 rfl ?_
  refine ce_bipush (v := nI (100)) dX4_obeys_10 (by decide) ?_
  refine ce_idiv (z := nI ((G) / (100))) dX4_obeys_12 (nI_ne0 (by omega) (by omega)) (pk_div (by omega) (by omega) (by omega)) ?_
  refine ce_bipush (v := nI (10)) dX4_obeys_13 (by decide) ?_
  refine ce_irem (z := nI (((G) / (100)) % (10))) dX4_obeys_15 (nI_ne0 (by omega) (by omega)) (pk_rem (by omega) (by omega) (by omega)) ?_
  refine ce_istore_n dX4_obeys_16 (Nat.le_of_ble_eq_true rfl) rfl ?_
  generalize hb : G / 100 % 10 = b
  have hb2 : b < 10 := by omega
  refine ce_iload_n dX4_obeys_17 rfl ?_
  refine ce_bipush (v := nI (100)) dX4_obeys_18 (by decide) ?_
  refine ce_irem (z := nI ((G) % (100))) dX4_obeys_20 (nI_ne0 (by omega) (by omega)) (pk_rem (by omega) (by omega) (by omega)) ?_
  refine ce_istore dX4_obeys_21 (Nat.le_of_ble_eq_true rfl) rfl ?_
  generalize he : G % 100 = e
  have he2 : e < 100 := by omega
  refine ce_iload_n dX4_obeys_23 rfl ?_
  refine ce_sipush (v := nI (10000)) dX4_obeys_24 (by decide) ?_
  refine ce_idiv (z := nI (5)) dX4_obeys_27 (nI_ne0 (by omega) (by omega)) ((pk_div (by omega) (by omega) (by omega)).trans (congrArg nI hq)) ?_
  refine ce_tableIn (off := 116) (tgt := 144) dX4_obeys_28 (by decide) (by decide) (by decide) (by decide) ?_
  refine ce_aload_n dX4_obeys_144 rfl ?_
  refine ce_iload_n dX4_obeys_145 rfl ?_
  refine ce_iload_n dX4_obeys_146 rfl ?_
  refine ce_iload dX4_obeys_147 rfl ?_
  refine ce_bipush (v := nI (10)) dX4_obeys_149 (by decide) ?_
  refine ce_idiv (z := nI ((e) / (10))) dX4_obeys_151 (nI_ne0 (by omega) (by omega)) (pk_div (by omega) (by omega) (by omega)) ?_
  refine ce_iload dX4_obeys_152 rfl ?_
  refine ce_bipush (v := nI (10)) dX4_obeys_154 (by decide) ?_
  refine ce_irem (z := nI ((e) % (10))) dX4_obeys_156 (nI_ne0 (by omega) (by omega)) (pk_rem (by omega) (by omega) (by omega)) ?_
  refine ce_cVr dX4_obeys_157 hX4_gives kRX4_36 (m_X4_gives r K O hL hr hk (a) (b) ((e) / (10)) ((e) % (10)) (by omega) (by omega) (by omega) (by omega) (kv_gifF K (nI (a)) (nI (b)) (nI ((e) / (10))) (nI ((e) % (10)))) rfl (kv_F3 K (nI (a)) (nI (b)) (nI ((e) / (10))) (nI ((e) % (10)))).2.2.2.2.1) rfl rfl hL.1 rfl (by decide) (Nat.le_of_ble_eq_true rfl) (fun rcg1 cg1 hcg1 => ?_)
  obtain ⟨rfl, hcg12, hcg13⟩ := hcg1
  refine ce_iret dX4_obeys_160 rfl (by first | rfl | decide | (split <;> rfl)) (by decide) (by decide) ?_
  have eK : kt_K K G = kv_han K a b (e / 10) (e % 10) := by unfold kt_K; rw [hq, ha, hb, he]; try rfl
  have eO : kt_O K O G = O := by unfold kt_O; rw [hq]; try rfl
  have eF : kt_f K G = kv_gifF K (nI a) (nI b) (nI (e / 10)) (nI (e % 10)) := by unfold kt_f; rw [hq, ha, hb, he]; try rfl
  rw [eF, eK, eO]
  exact ⟨_, rfl, rfl, rfl, hcg12, hcg13⟩
set_option maxHeartbeats 2000000 in
set_option maxRecDepth 20000 in
theorem m_X4_obeys6 {σ : ce_S} {g : ce_D} (r : Nat) (K : ce_V) (O : Nat → Int32) (hL : ce_LR σ r) (hr : ce_rC g (r + 1) K O) (hk : kv_cl K) (G : Nat) (hG : G < 100000) (hq : G / 10000 = 6) : ce_CT (ce_r 5) mX4_obeys [.ref (r), .int (nI (G))] σ g (ce_rv σ (fun x g' => x = (if kt_f K G = 0 then 1 else 0) ∧ ce_rC g' (r + 1) (ks_ite (kt_f K G) (kt_K K G) K) (ks_ite (kt_f K G) (kt_O K O G) O) ∧ ce_fr (r + 1) (r + 1 + 20) g g')) ce_no := by
  have hB := hk.i7
  have hM := hk.me
  have hW := hk.wi
  refine ce_enter (by decide) rfl (Nat.le_of_ble_eq_true rfl) (L := [some (.ref (r)), some (.int (nI (G))), none, none, none]) rfl ?_
  refine ce_iload_n dX4_obeys_0 rfl ?_
  refine ce_sipush (v := nI (1000)) dX4_obeys_1 (by decide) ?_
  refine ce_idiv (z := nI ((G) / (1000))) dX4_obeys_4 (nI_ne0 (by omega) (by omega)) (pk_div (by omega) (by omega) (by omega)) ?_
  refine ce_bipush (v := nI (10)) dX4_obeys_5 (by decide) ?_
  refine ce_irem (z := nI (((G) / (1000)) % (10))) dX4_obeys_7 (nI_ne0 (by omega) (by omega)) (pk_rem (by omega) (by omega) (by omega)) ?_
  refine ce_istore_n dX4_obeys_8 (Nat.le_of_ble_eq_true rfl) rfl ?_
  generalize ha : G / 1000 % 10 = a
  have ha2 : a < 10 := by omega
  refine ce_iload_n dX4_obeys_9 rfl ?_
  refine ce_bipush (v := nI (100)) dX4_obeys_10 (by decide) ?_
  refine ce_idiv (z := nI ((G) / (100))) dX4_obeys_12 (nI_ne0 (by omega) (by omega)) (pk_div (by omega) (by omega) (by omega)) ?_
  refine ce_bipush (v := nI (10)) dX4_obeys_13 (by decide) ?_
  refine ce_irem (z := nI (((G) / (100)) % (10))) dX4_obeys_15 (nI_ne0 (by omega) (by omega)) (pk_rem (by omega) (by omega) (by omega)) ?_
  refine ce_istore_n dX4_obeys_16 (Nat.le_of_ble_eq_true rfl) rfl ?_
  generalize hb : G / 100 % 10 = b
  have hb2 : b < 10 := by omega
  refine ce_iload_n dX4_obeys_17 rfl ?_
  refine ce_bipush (v := nI (100)) dX4_obeys_18 (by decide) ?_
  refine ce_irem (z := nI ((G) % (100))) dX4_obeys_20 (nI_ne0 (by omega) (by omega)) (pk_rem (by omega) (by omega) (by omega)) ?_
  refine ce_istore dX4_obeys_21 (Nat.le_of_ble_eq_true rfl) rfl ?_
  generalize he : G % 100 = e
  have he2 : e < 100 := by omega
  refine ce_iload_n dX4_obeys_23 rfl ?_
  refine ce_sipush (v := nI (10000)) dX4_obeys_24 (by decide) ?_
  refine ce_idiv (z := nI (6)) dX4_obeys_27 (nI_ne0 (by omega) (by omega)) ((pk_div (by omega) (by omega) (by omega)).trans (congrArg nI hq)) ?_
  refine ce_tableIn (off := 133) (tgt := 161) dX4_obeys_28 (by decide) (by decide) (by decide) (by decide) ?_
  refine ce_iload dX4_obeys_161 rfl ?_
  refine ce_if_neN (tgt := 179) dX4_obeys_163 (by decide) rfl (by omega) (fun c_163 => ?_) (fun c_163 => ?_)
  · refine ce_iconst (v := nI (0)) dX4_obeys_179 (by decide) ?_
    refine ce_iret dX4_obeys_180 rfl (by first | rfl | decide | (split <;> rfl)) (by decide) (by decide) ?_
    have eK : kt_K K G = kv_cor K a b := by unfold kt_K; rw [hq, ha, hb]; try rfl
    have eO : kt_O K O G = ko_cor K a b O := by unfold kt_O; rw [hq, ha, hb]; try rfl
    have eF : kt_f K G = 9 := (show kt_f K G = (if e = 0 then kv_corF K (nI a) (nI b) else 9) by unfold kt_f; rw [hq, ha, hb, he]; try rfl).trans (if_neg (by omega))
    rw [eF]
    exact ⟨_, rfl, rfl, rfl, hr, ce_fr.rf⟩
  · refine ce_aload_n dX4_obeys_166 rfl ?_
    refine ce_iload_n dX4_obeys_167 rfl ?_
    refine ce_iload_n dX4_obeys_168 rfl ?_
    refine ce_cVr dX4_obeys_169 hX4_corks kRX4_40 (m_X4_corks r K O hL hr hk (a) (b) (by omega) (by omega) (kv_corF K (nI (a)) (nI (b))) rfl (kv_F3 K (nI (a)) (nI (b)) (nI (a)) (nI (a))).2.2.2.2.2.1) rfl rfl hL.1 rfl (by decide) (Nat.le_of_ble_eq_true rfl) (fun rcg1 cg1 hcg1 => ?_)
    obtain ⟨rfl, hcg12, hcg13⟩ := hcg1
    refine ce_if_eqB (tgt := 179) dX4_obeys_172 (by decide) rfl (fun c_172 => ?_) (fun c_172 => ?_)
    · refine ce_iconst (v := nI (0)) dX4_obeys_179 (by decide) ?_
      refine ce_iret dX4_obeys_180 rfl (by first | rfl | decide | (split <;> rfl)) (by decide) (by decide) ?_
      have eK : kt_K K G = kv_cor K a b := by unfold kt_K; rw [hq, ha, hb]; try rfl
      have eO : kt_O K O G = ko_cor K a b O := by unfold kt_O; rw [hq, ha, hb]; try rfl
      have eF : kt_f K G = kv_corF K (nI a) (nI b) := (show kt_f K G = (if e = 0 then kv_corF K (nI a) (nI b) else 9) by unfold kt_f; rw [hq, ha, hb, he]; try rfl).trans (if_pos (by omega))
      rw [eF, eK, eO]
      exact ⟨_, rfl, rfl, (if_neg c_172).symm, hcg12, hcg13⟩
    · refine ce_iconst (v := nI (1)) dX4_obeys_175 (by decide) ?_
      refine ce_goto (tgt := 180) dX4_obeys_176 (by decide) ?_
      refine ce_iret dX4_obeys_180 rfl (by first | rfl | decide | (split <;> rfl)) (by decide) (by decide) ?_
      have eK : kt_K K G = kv_cor K a b := by unfold kt_K; rw [hq, ha, hb]; try rfl
      have eO : kt_O K O G = ko_cor K a b O := by unfold kt_O; rw [hq, ha, hb]; try rfl
      have eF : kt_f K G = kv_corF K (nI a) (nI b) := (show kt_f K G = (if e = 0 then kv_corF K (nI a) (nI b) else 9) by unfold kt_f; rw [hq, ha, hb, he]; try rfl).trans (if_pos (by omega))
      rw [eF, eK, eO]
      exact ⟨_, rfl, rfl, (if_pos c_172).symm, hcg12, hcg13⟩
set_option maxHeartbeats 2000000 in
set_option maxRecDepth 20000 in
theorem m_X4_obeys7 {σ : ce_S} {g : ce_D} (r : Nat) (K : ce_V) (O : Nat → Int32) (hL : ce_LR σ r) (hr : ce_rC g (r + 1) K O) (hk : kv_cl K) (G : Nat) (hG : G < 100000) (hq : G / 10000 = 7) : ce_CT (ce_r 5) mX4_obeys [.ref (r), .int (nI (G))] σ g (ce_rv σ (fun x g' => x = (if kt_f K G = 0 then 1 else 0) ∧ ce_rC g' (r + 1) (ks_ite (kt_f K G) (kt_K K G) K) (ks_ite (kt_f K G) (kt_O K O G) O) ∧ ce_fr (r + 1) (r + 1 + 20) g g')) ce_no := by
  have hB := hk.i7
  have hM := hk.me
  have hW := hk.wi
  refine ce_enter (by decide) rfl (Nat.le_of_ble_eq_true rfl) (L := [some (.ref (r)), some (.int (nI (G))), none, none, none]) rfl ?_
  refine ce_iload_n dX4_obeys_0 rfl ?_
  refine ce_sipush (v := nI (1000)) dX4_obeys_1 (by decide) ?_
  refine ce_idiv (z := nI ((G) / (1000))) dX4_obeys_4 (nI_ne0 (by omega) (by omega)) (pk_div (by omega) (by omega) (by omega)) ?_
  refine ce_bipush (v := nI (10)) dX4_obeys_5 (by decide) ?_
  refine ce_irem (z := nI (((G) / (1000)) % (10))) dX4_obeys_7 (nI_ne0 (by omega) (by omega)) (pk_rem (by omega) (by omega) (by omega)) ?_
  refine ce_istore_n dX4_obeys_8 (Nat.le_of_ble_eq_true rfl) rfl ?_
  generalize ha : G / 1000 % 10 = a
  have ha2 : a < 10 := by omega
  refine ce_iload_n dX4_obeys_9 rfl ?_
  refine ce_bipush (v := nI (100)) dX4_obeys_10 (by decide) ?_
  refine ce_idiv (z := nI ((G) / (100))) dX4_obeys_12 (nI_ne0 (by omega) (by omega)) (pk_div (by omega) (by omega) (by omega)) ?_
  refine ce_bipush (v := nI (10)) dX4_obeys_13 (by decide) ?_
  refine ce_irem (z := nI (((G) / (100)) % (10))) dX4_obeys_15 (nI_ne0 (by omega) (by omega)) (pk_rem (by omega) (by omega) (by omega)) ?_
  refine ce_istore_n dX4_obeys_16 (Nat.le_of_ble_eq_true rfl) rfl ?_
  generalize hb : G / 100 % 10 = b
  have hb2 : b < 10 := by omega
  refine ce_iload_n dX4_obeys_17 rfl ?_
  refine ce_bipush (v := nI (100)) dX4_obeys_18 (by decide) ?_
  refine ce_irem (z := nI ((G) % (100))) dX4_obeys_20 (nI_ne0 (by omega) (by omega)) (pk_rem (by omega) (by omega) (by omega)) ?_
  refine ce_istore dX4_obeys_21 (Nat.le_of_ble_eq_true rfl) rfl ?_
  generalize he : G % 100 = e
  have he2 : e < 100 := by omega
  refine ce_iload_n dX4_obeys_23 rfl ?_
  refine ce_sipush (v := nI (10000)) dX4_obeys_24 (by decide) ?_
  refine ce_idiv (z := nI (7)) dX4_obeys_27 (nI_ne0 (by omega) (by omega)) ((pk_div (by omega) (by omega) (by omega)).trans (congrArg nI hq)) ?_
  refine ce_tableIn (off := 153) (tgt := 181) dX4_obeys_28 (by decide) (by decide) (by decide) (by decide) ?_
  refine ce_aload_n dX4_obeys_181 rfl ?_
  refine ce_iload_n dX4_obeys_182 rfl ?_
  refine ce_iload_n dX4_obeys_183 rfl ?_
  refine ce_iload dX4_obeys_184 rfl ?_
  refine ce_cVr dX4_obeys_186 hX4_moves kRX4_44 (m_X4_moves r K O hL hr hk (a) (b) (e) (by omega) (by omega) (by omega) (kv_carF K (nI (a)) (nI (b)) (nI (e))) rfl (kv_F3 K (nI (a)) (nI (b)) (nI (a)) (nI (e))).2.2.2.2.2.2) rfl rfl hL.1 rfl (by decide) (Nat.le_of_ble_eq_true rfl) (fun rcg1 cg1 hcg1 => ?_)
  obtain ⟨rfl, hcg12, hcg13⟩ := hcg1
  refine ce_iret dX4_obeys_189 rfl (by first | rfl | decide | (split <;> rfl)) (by decide) (by decide) ?_
  have eK : kt_K K G = kv_car K a b e := by unfold kt_K; rw [hq, ha, hb, he]; try rfl
  have eO : kt_O K O G = O := by unfold kt_O; rw [hq]; try rfl
  have eF : kt_f K G = kv_carF K (nI a) (nI b) (nI e) := by unfold kt_f; rw [hq, ha, hb, he]; try rfl
  rw [eF, eK, eO]
  exact ⟨_, rfl, rfl, rfl, hcg12, hcg13⟩
set_option maxHeartbeats 2000000 in
set_option maxRecDepth 20000 in
theorem m_X4_obeys8 {σ : ce_S} {g : ce_D} (r : Nat) (K : ce_V) (O : Nat → Int32) (hL : ce_LR σ r) (hr : ce_rC g (r + 1) K O) (hk : kv_cl K) (G : Nat) (hG : G < 100000) (hq : G / 10000 = 8) : ce_CT (ce_r 5) mX4_obeys [.ref (r), .int (nI (G))] σ g (ce_rv σ (fun x g' => x = (if kt_f K G = 0 then 1 else 0) ∧ ce_rC g' (r + 1) (ks_ite (kt_f K G) (kt_K K G) K) (ks_ite (kt_f K G) (kt_O K O G) O) ∧ ce_fr (r + 1) (r + 1 + 20) g g')) ce_no := by
  have hB := hk.i7
  have hM := hk.me
  have hW := hk.wi
  refine ce_enter (by decide) rfl (Nat.le_of_ble_eq_true rfl) (L := [some (.ref (r)), some (.int (nI (G))), none, none, none]) rfl ?_
  refine ce_iload_n dX4_obeys_0 rfl ?_
  refine ce_sipush (v := nI (1000)) dX4_obeys_1 (by decide) ?_
  refine ce_idiv (z := nI ((G) / (1000))) dX4_obeys_4 (nI_ne0 (by omega) (by omega)) (pk_div (by omega) (by omega) (by omega)) ?_
  refine ce_bipush (v := nI (10)) dX4_obeys_5 (by decide) ?_
  refine ce_irem (z := nI (((G) / (1000)) % (10))) dX4_obeys_7 (nI_ne0 (by omega) (by omega)) (pk_rem (by omega) (by omega) (by omega)) ?_
  refine ce_istore_n dX4_obeys_8 (Nat.le_of_ble_eq_true rfl) rfl ?_
  generalize ha : G / 1000 % 10 = a
  have ha2 : a < 10 := by omega
  refine ce_iload_n dX4_obeys_9 rfl ?_
  refine ce_bipush (v := nI (100)) dX4_obeys_10 (by decide) ?_
  refine ce_idiv (z := nI ((G) / (100))) dX4_obeys_12 (nI_ne0 (by omega) (by omega)) (pk_div (by omega) (by omega) (by omega)) ?_
  refine ce_bipush (v := nI (10)) dX4_obeys_13 (by decide) ?_
  refine ce_irem (z := nI (((G) / (100)) % (10))) dX4_obeys_15 (nI_ne0 (by omega) (by omega)) (pk_rem (by omega) (by omega) (by omega)) ?_
  refine ce_istore_n dX4_obeys_16 (Nat.le_of_ble_eq_true rfl) rfl ?_
  generalize hb : G / 100 % 10 = b
  have hb2 : b < 10 := by omega
  refine ce_iload_n dX4_obeys_17 rfl ?_
  refine ce_bipush (v := nI (100)) dX4_obeys_18 (by decide) ?_
  refine ce_irem (z := nI ((G) % (100))) dX4_obeys_20 (nI_ne0 (by omega) (by omega)) (pk_rem (by omega) (by omega) (by omega)) ?_
  refine ce_istore dX4_obeys_21 (Nat.le_of_ble_eq_true rfl) rfl ?_
  generalize he : G % 100 = e
  have he2 : e < 100 := by omega
  refine ce_iload_n dX4_obeys_23 rfl ?_
  refine ce_sipush (v := nI (10000)) dX4_obeys_24 (by decide) ?_
  refine ce_idiv (z := nI (8)) dX4_obeys_27 (nI_ne0 (by omega) (by omega)) ((pk_div (by omega) (by omega) (by omega)).trans (congrArg nI hq)) ?_
  refine ce_tableIn (off := 162) (tgt := 190) dX4_obeys_28 (by decide) (by decide) (by decide) (by decide) ?_
  refine ce_aload_n dX4_obeys_190 rfl ?_
  refine ce_getR dX4_obeys_191 fRX4_12 hL.1 hL.2.1 ?_
  refine ce_iload_n dX4_obeys_194 rfl ?_
  refine ce_iload_n dX4_obeys_195 rfl ?_
  refine ce_cVp dX4_obeys_196 hX0_knowsBoth kRX4_47 (m_X0_knowsBoth (r + 1) K O hL.2.2 hr hk (nI (a)) (nI (b))) rfl rfl (hL.2.2).1 rfl (by decide) (Nat.le_of_ble_eq_true rfl) ?_
  refine ce_if_eqB (tgt := 223) dX4_obeys_199 (by decide) rfl (fun c_199 => ?_) (fun c_199 => ?_)
  · refine ce_iconst (v := nI (0)) dX4_obeys_223 (by decide) ?_
    refine ce_iret dX4_obeys_224 rfl (by first | rfl | decide | (split <;> rfl)) (by decide) (by decide) ?_
    have eK : kt_K K G = K := by unfold kt_K; rw [hq]; try rfl
    have eO : kt_O K O G = O := by unfold kt_O; rw [hq]; try rfl
    have eF : kt_f K G = 9 := (show kt_f K G = (if a < K 0 0 ∧ b < K 0 1 ∧ e ≤ K 9 (a * 6 + b) then 0 else 9) by unfold kt_f; rw [hq, ha, hb, he]; try rfl).trans (if_neg (fun z => c_199 ⟨(ce_in_nI (by omega)).mpr z.1, (ce_in_nI (by omega)).mpr z.2.1⟩))
    rw [eF]
    exact ⟨_, rfl, rfl, rfl, hr, ce_fr.rf⟩
  · have z := And.intro ((ce_in_nI (by omega)).mp c_199.1) ((ce_in_nI (by omega)).mp c_199.2)
    have hl9 := hk.le (m := a) (w := b) (by omega) (by omega)
    refine ce_aload_n dX4_obeys_202 rfl ?_
    refine ce_getR dX4_obeys_203 fRX4_12 hL.1 hL.2.1 ?_
    refine ce_getR dX4_obeys_206 fRX4_50 (hL.2.2).1 (hL.2.2).2.2.1.2.2.1 ?_
    refine ce_iload_n dX4_obeys_209 rfl ?_
    refine ce_iload_n dX4_obeys_210 rfl ?_
    refine ce_cVp dX4_obeys_211 hX5_of kRX4_54 (n_X5_of (hL.2.2).2.2.2.2.1.2.2.1 (m := a) (w := b) (by omega) (by omega) (nI (K 9 (a * 6 + b))) ((hr).t 9 (by decide) (by omega))) rfl rfl ((hL.2.2).2.2.2.2.1.2.2.1).1 rfl (by decide) (Nat.le_of_ble_eq_true rfl) ?_
    refine ce_iload dX4_obeys_214 rfl ?_
    refine ce_icmp_ltN (tgt := 223) dX4_obeys_216 (by decide) rfl rfl (by omega) (by omega) (fun c_216 => ?_) (fun c_216 => ?_)
    · refine ce_iconst (v := nI (0)) dX4_obeys_223 (by decide) ?_
      refine ce_iret dX4_obeys_224 rfl (by first | rfl | decide | (split <;> rfl)) (by decide) (by decide) ?_
      have eK : kt_K K G = K := by unfold kt_K; rw [hq]; try rfl
      have eO : kt_O K O G = O := by unfold kt_O; rw [hq]; try rfl
      have eF : kt_f K G = 9 := (show kt_f K G = (if a < K 0 0 ∧ b < K 0 1 ∧ e ≤ K 9 (a * 6 + b) then 0 else 9) by unfold kt_f; rw [hq, ha, hb, he]; try rfl).trans (if_neg (by omega))
      rw [eF]
      exact ⟨_, rfl, rfl, rfl, hr, ce_fr.rf⟩
    · refine ce_iconst (v := nI (1)) dX4_obeys_219 (by decide) ?_
      refine ce_goto (tgt := 224) dX4_obeys_220 (by decide) ?_
      refine ce_iret dX4_obeys_224 rfl (by first | rfl | decide | (split <;> rfl)) (by decide) (by decide) ?_
      have eK : kt_K K G = K := by unfold kt_K; rw [hq]; try rfl
      have eO : kt_O K O G = O := by unfold kt_O; rw [hq]; try rfl
      have eF : kt_f K G = 0 := (show kt_f K G = (if a < K 0 0 ∧ b < K 0 1 ∧ e ≤ K 9 (a * 6 + b) then 0 else 9) by unfold kt_f; rw [hq, ha, hb, he]; try rfl).trans (if_pos (by omega))
      rw [eF, eK, eO]
      exact ⟨_, rfl, rfl, rfl, hr, ce_fr.rf⟩
set_option maxHeartbeats 2000000 in
set_option maxRecDepth 20000 in
theorem m_X4_obeys9 {σ : ce_S} {g : ce_D} (r : Nat) (K : ce_V) (O : Nat → Int32) (hL : ce_LR σ r) (hr : ce_rC g (r + 1) K O) (hk : kv_cl K) (G : Nat) (hG : G < 100000) (hq : G / 10000 = 9) : ce_CT (ce_r 5) mX4_obeys [.ref (r), .int (nI (G))] σ g (ce_rv σ (fun x g' => x = (if kt_f K G = 0 then 1 else 0) ∧ ce_rC g' (r + 1) (ks_ite (kt_f K G) (kt_K K G) K) (ks_ite (kt_f K G) (kt_O K O G) O) ∧ ce_fr (r + 1) (r + 1 + 20) g g')) ce_no := by
  have hB := hk.i7
  have hM := hk.me
  have hW := hk.wi
  have he5 := kv_emp_le K (K 0 2)
  refine ce_enter (by decide) rfl (Nat.le_of_ble_eq_true rfl) (L := [some (.ref (r)), some (.int (nI (G))), none, none, none]) rfl ?_
  refine ce_iload_n dX4_obeys_0 rfl ?_
  refine ce_sipush (v := nI (1000)) dX4_obeys_1 (by decide) ?_
  refine ce_idiv (z := nI ((G) / (1000))) dX4_obeys_4 (nI_ne0 (by omega) (by omega)) (pk_div (by omega) (by omega) (by omega)) ?_
  refine ce_bipush (v := nI (10)) dX4_obeys_5 (by decide) ?_
  refine ce_irem (z := nI (((G) / (1000)) % (10))) dX4_obeys_7 (nI_ne0 (by omega) (by omega)) (pk_rem (by omega) (by omega) (by omega)) ?_
  refine ce_istore_n dX4_obeys_8 (Nat.le_of_ble_eq_true rfl) rfl ?_
  generalize ha : G / 1000 % 10 = a
  have ha2 : a < 10 := by omega
  refine ce_iload_n dX4_obeys_9 rfl ?_
  refine ce_bipush (v := nI (100)) dX4_obeys_10 (by decide) ?_
  refine ce_idiv (z := nI ((G) / (100))) dX4_obeys_12 (nI_ne0 (by omega) (by omega)) (pk_div (by omega) (by omega) (by omega)) ?_
  refine ce_bipush (v := nI (10)) dX4_obeys_13 (by decide) ?_
  refine ce_irem (z := nI (((G) / (100)) % (10))) dX4_obeys_15 (nI_ne0 (by omega) (by omega)) (pk_rem (by omega) (by omega) (by omega)) ?_
  refine ce_istore_n dX4_obeys_16 (Nat.le_of_ble_eq_true rfl) rfl ?_
  generalize hb : G / 100 % 10 = b
  have hb2 : b < 10 := by omega
  refine ce_iload_n dX4_obeys_17 rfl ?_
  refine ce_bipush (v := nI (100)) dX4_obeys_18 (by decide) ?_
  refine ce_irem (z := nI ((G) % (100))) dX4_obeys_20 (nI_ne0 (by omega) (by omega)) (pk_rem (by omega) (by omega) (by omega)) ?_
  refine ce_istore dX4_obeys_21 (Nat.le_of_ble_eq_true rfl) rfl ?_
  generalize he : G % 100 = e
  have he2 : e < 100 := by omega
  refine ce_iload_n dX4_obeys_23 rfl ?_
  refine ce_sipush (v := nI (10000)) dX4_obeys_24 (by decide) ?_
  refine ce_idiv (z := nI (9)) dX4_obeys_27 (nI_ne0 (by omega) (by omega)) ((pk_div (by omega) (by omega) (by omega)).trans (congrArg nI hq)) ?_
  refine ce_tableIn (off := 197) (tgt := 225) dX4_obeys_28 (by decide) (by decide) (by decide) (by decide) ?_
  refine ce_iload_n dX4_obeys_225 rfl ?_
  refine ce_if_neN (tgt := 259) dX4_obeys_226 (by decide) rfl (by omega) (fun c_226 => ?_) (fun c_226 => ?_)
  · refine ce_iconst (v := nI (0)) dX4_obeys_259 (by decide) ?_
    refine ce_iret dX4_obeys_260 rfl (by first | rfl | decide | (split <;> rfl)) (by decide) (by decide) ?_
    have eK : kt_K K G = K := by unfold kt_K; rw [hq]; try rfl
    have eO : kt_O K O G = O := by unfold kt_O; rw [hq]; try rfl
    have eF : kt_f K G = 9 := (show kt_f K G = (if a = 0 ∧ b = 0 ∧ e < 10 ∧ e ≤ kv_emp K (K 0 2) then 0 else 9) by unfold kt_f; rw [hq, ha, hb, he]; try rfl).trans (if_neg (by omega))
    rw [eF]
    exact ⟨_, rfl, rfl, rfl, hr, ce_fr.rf⟩
  · refine ce_iload_n dX4_obeys_229 rfl ?_
    refine ce_if_neN (tgt := 259) dX4_obeys_230 (by decide) rfl (by omega) (fun c_230 => ?_) (fun c_230 => ?_)
    · refine ce_iconst (v := nI (0)) dX4_obeys_259 (by decide) ?_
      refine ce_iret dX4_obeys_260 rfl (by first | rfl | decide | (split <;> rfl)) (by decide) (by decide) ?_
      have eK : kt_K K G = K := by unfold kt_K; rw [hq]; try rfl
      have eO : kt_O K O G = O := by unfold kt_O; rw [hq]; try rfl
      have eF : kt_f K G = 9 := (show kt_f K G = (if a = 0 ∧ b = 0 ∧ e < 10 ∧ e ≤ kv_emp K (K 0 2) then 0 else 9) by unfold kt_f; rw [hq, ha, hb, he]; try rfl).trans (if_neg (by omega))
      rw [eF]
      exact ⟨_, rfl, rfl, rfl, hr, ce_fr.rf⟩
    · refine ce_iload dX4_obeys_233 rfl ?_
      refine ce_bipush (v := nI (10)) dX4_obeys_235 (by decide) ?_
      refine ce_icmp_geN (tgt := 259) dX4_obeys_237 (by decide) rfl rfl (by omega) (by omega) (fun c_237 => ?_) (fun c_237 => ?_)
      · refine ce_iconst (v := nI (0)) dX4_obeys_259 (by decide) ?_
        refine ce_iret dX4_obeys_260 rfl (by first | rfl | decide | (split <;> rfl)) (by decide) (by decide) ?_
        have eK : kt_K K G = K := by unfold kt_K; rw [hq]; try rfl
        have eO : kt_O K O G = O := by unfold kt_O; rw [hq]; try rfl
        have eF : kt_f K G = 9 := (show kt_f K G = (if a = 0 ∧ b = 0 ∧ e < 10 ∧ e ≤ kv_emp K (K 0 2) then 0 else 9) by unfold kt_f; rw [hq, ha, hb, he]; try rfl).trans (if_neg (by omega))
        rw [eF]
        exact ⟨_, rfl, rfl, rfl, hr, ce_fr.rf⟩
      · refine ce_aload_n dX4_obeys_240 rfl ?_
        refine ce_getR dX4_obeys_241 fRX4_12 hL.1 hL.2.1 ?_
        refine ce_getR dX4_obeys_244 fRX4_60 (hL.2.2).1 (hL.2.2).2.2.1.2.2.2.2 ?_
        refine ce_cVp dX4_obeys_247 hX3_emptyBins kRX4_64 (m_X3_emptyBins _ K (hL.2.2).2.2.2.2.2 (hr).k hk.rk) rfl rfl ((hL.2.2).2.2.2.2.2).1 rfl (by decide) (Nat.le_of_ble_eq_true rfl) ?_
        refine ce_iload dX4_obeys_250 rfl ?_
        refine ce_icmp_ltN (tgt := 259) dX4_obeys_252 (by decide) rfl rfl (by omega) (by omega) (fun c_252 => ?_) (fun c_252 => ?_)
        · refine ce_iconst (v := nI (0)) dX4_obeys_259 (by decide) ?_
          refine ce_iret dX4_obeys_260 rfl (by first | rfl | decide | (split <;> rfl)) (by decide) (by decide) ?_
          have eK : kt_K K G = K := by unfold kt_K; rw [hq]; try rfl
          have eO : kt_O K O G = O := by unfold kt_O; rw [hq]; try rfl
          have eF : kt_f K G = 9 := (show kt_f K G = (if a = 0 ∧ b = 0 ∧ e < 10 ∧ e ≤ kv_emp K (K 0 2) then 0 else 9) by unfold kt_f; rw [hq, ha, hb, he]; try rfl).trans (if_neg (by omega))
          rw [eF]
          exact ⟨_, rfl, rfl, rfl, hr, ce_fr.rf⟩
        · refine ce_iconst (v := nI (1)) dX4_obeys_255 (by decide) ?_
          refine ce_goto (tgt := 260) dX4_obeys_256 (by decide) ?_
          refine ce_iret dX4_obeys_260 rfl (by first | rfl | decide | (split <;> rfl)) (by decide) (by decide) ?_
          have eK : kt_K K G = K := by unfold kt_K; rw [hq]; try rfl
          have eO : kt_O K O G = O := by unfold kt_O; rw [hq]; try rfl
          have eF : kt_f K G = 0 := (show kt_f K G = (if a = 0 ∧ b = 0 ∧ e < 10 ∧ e ≤ kv_emp K (K 0 2) then 0 else 9) by unfold kt_f; rw [hq, ha, hb, he]; try rfl).trans (if_pos (by omega))
          rw [eF, eK, eO]
          exact ⟨_, rfl, rfl, rfl, hr, ce_fr.rf⟩
theorem m_X4_obeys {σ : ce_S} {g : ce_D} (r : Nat) (K : ce_V) (O : Nat → Int32) (hL : ce_LR σ r) (hr : ce_rC g (r + 1) K O) (hk : kv_cl K) (G : Nat) (hG : G < 100000) : ce_CT (ce_r 5) mX4_obeys [.ref (r), .int (nI (G))] σ g (ce_rv σ (fun x g' => x = (if kt_f K G = 0 then 1 else 0) ∧ ce_rC g' (r + 1) (ks_ite (kt_f K G) (kt_K K G) K) (ks_ite (kt_f K G) (kt_O K O G) O) ∧ ce_fr (r + 1) (r + 1 + 20) g g')) ce_no := by
  have h : G / 10000 = 0 ∨ G / 10000 = 1 ∨ G / 10000 = 2 ∨ G / 10000 = 3 ∨ G / 10000 = 4 ∨ G / 10000 = 5 ∨ G / 10000 = 6 ∨ G / 10000 = 7 ∨ G / 10000 = 8 ∨ G / 10000 = 9 := by omega
  rcases h with h | h | h | h | h | h | h | h | h | h
  · exact m_X4_obeys0 r K O hL hr hk G hG h
  · exact m_X4_obeys1 r K O hL hr hk G hG h
  · exact m_X4_obeys2 r K O hL hr hk G hG h
  · exact m_X4_obeys3 r K O hL hr hk G hG h
  · exact m_X4_obeys4 r K O hL hr hk G hG h
  · exact m_X4_obeys5 r K O hL hr hk G hG h
  · exact m_X4_obeys6 r K O hL hr hk G hG h
  · exact m_X4_obeys7 r K O hL hr hk G hG h
  · exact m_X4_obeys8 r K O hL hr hk G hG h
  · exact m_X4_obeys9 r K O hL hr hk G hG h
set_option maxHeartbeats 2000000 in
set_option maxRecDepth 20000 in
theorem m_X4_spendEvening {σ : ce_S} {g : ce_D} (r : Nat) (K : ce_V) (O : Nat → Int32) (hL : ce_LR σ r) (hr : ce_rC g (r + 1) K O) (hk : kv_cl K) (R : Nat) (hR : R < 2 ^ 31) : ce_CT (ce_r 5) mX4_spendEvening [.ref (r), .int (nI (R))] σ g (ce_uv σ (fun g' => ce_rC g' (r + 1) (ks_ite (ke_f K R) (ke_K K R) K) (ks_ite (ke_f K R) (ke_O K O R) O) ∧ ce_fr (r + 1) (r + 1 + 20) g g')) ce_no := by
  have hB := hk.i7
  have hM := hk.me
  have hW := hk.wi
  refine ce_enter (by decide) rfl (Nat.le_of_ble_eq_true rfl) (L := [some (.ref (r)), some (.int (nI (R))), none, none, none]) rfl ?_
  refine ce_aload_n dX4_spendEvening_0 rfl ?_
  refine ce_getR dX4_spendEvening_1 fRX4_12 hL.1 hL.2.1 ?_
  refine ce_getIv dX4_spendEvening_4 fRX4_70 (hL.2.2).1 (hr).1 ?_
  refine ce_if_eqN (tgt := 20) dX4_spendEvening_7 (by decide) rfl (by omega) (fun c_7 => ?_) (fun c_7 => ?_)
  · have eF : ke_f K R = 9 := if_pos (by omega)
    rw [eF]
    exact ce_vret dX4_spendEvening_20 rfl (by decide) (by decide) ⟨rfl, rfl, hr, ce_fr.rf⟩
  · refine ce_aload_n dX4_spendEvening_10 rfl ?_
    refine ce_getR dX4_spendEvening_11 fRX4_12 hL.1 hL.2.1 ?_
    refine ce_getIv dX4_spendEvening_14 fRX4_74 (hL.2.2).1 (hr).2.1 ?_
    refine ce_if_neN (tgt := 21) dX4_spendEvening_17 (by decide) rfl (by omega) (fun c_17 => ?_) (fun c_17 => ?_)
    · refine ce_iload_n dX4_spendEvening_21 rfl ?_
      refine ce_bipush (v := nI (8)) dX4_spendEvening_22 (by decide) ?_
      refine ce_idiv (z := nI ((R) / (8))) dX4_spendEvening_24 (nI_ne0 (by omega) (by omega)) (pk_div (by omega) (by omega) (by omega)) ?_
      refine ce_aload_n dX4_spendEvening_25 rfl ?_
      refine ce_getR dX4_spendEvening_26 fRX4_12 hL.1 hL.2.1 ?_
      refine ce_getIv dX4_spendEvening_29 fRX4_70 (hL.2.2).1 (hr).1 ?_
      refine ce_irem (z := nI (((R) / (8)) % (K 0 0))) dX4_spendEvening_32 (nI_ne0 (by omega) (by omega)) (pk_rem (by omega) (by omega) (by omega)) ?_
      refine ce_istore_n dX4_spendEvening_33 (Nat.le_of_ble_eq_true rfl) rfl ?_
      have hm2 : R / 8 % K 0 0 < K 0 0 := Nat.mod_lt _ (by omega)
      generalize hm : R / 8 % K 0 0 = m
      rw [hm] at hm2
      have hm3 : ke_m K R = m := hm
      refine ce_iload_n dX4_spendEvening_34 rfl ?_
      refine ce_bipush (v := nI (64)) dX4_spendEvening_35 (by decide) ?_
      refine ce_idiv (z := nI ((R) / (64))) dX4_spendEvening_37 (nI_ne0 (by omega) (by omega)) (pk_div (by omega) (by omega) (by omega)) ?_
      refine ce_aload_n dX4_spendEvening_38 rfl ?_
      refine ce_getR dX4_spendEvening_39 fRX4_12 hL.1 hL.2.1 ?_
      refine ce_getIv dX4_spendEvening_42 fRX4_74 (hL.2.2).1 (hr).2.1 ?_
      refine ce_irem (z := nI (((R) / (64)) % (K 0 1))) dX4_spendEvening_45 (nI_ne0 (by omega) (by omega)) (pk_rem (by omega) (by omega) (by omega)) ?_
      refine ce_istore_n dX4_spendEvening_46 (Nat.le_of_ble_eq_true rfl) rfl ?_
      have hw2 : R / 64 % K 0 1 < K 0 1 := Nat.mod_lt _ (by omega)
      generalize hw : R / 64 % K 0 1 = w
      rw [hw] at hw2
      have hw3 : ke_w K R = w := hw
      refine ce_iload_n dX4_spendEvening_47 rfl ?_
      refine ce_bipush (v := nI (8)) dX4_spendEvening_48 (by decide) ?_
      refine ce_irem (z := nI ((R) % (8))) dX4_spendEvening_50 (nI_ne0 (by omega) (by omega)) (pk_rem (by omega) (by omega) (by omega)) ?_
      refine ce_istore dX4_spendEvening_51 (Nat.le_of_ble_eq_true rfl) rfl ?_
      refine ce_iload dX4_spendEvening_53 rfl ?_
      refine ce_iconst (v := nI (5)) dX4_spendEvening_55 (by decide) ?_
      refine ce_icmp_geN (tgt := 78) dX4_spendEvening_56 (by decide) rfl rfl (by omega) (by omega) (fun c_56 => ?_) (fun c_56 => ?_)
      · refine ce_iload dX4_spendEvening_78 rfl ?_
        refine ce_iconst (v := nI (5)) dX4_spendEvening_80 (by decide) ?_
        refine ce_icmp_neN (tgt := 94) dX4_spendEvening_81 (by decide) rfl rfl (by omega) (by omega) (fun c_81 => ?_) (fun c_81 => ?_)
        · refine ce_aload_n dX4_spendEvening_94 rfl ?_
          refine ce_iload_n dX4_spendEvening_95 rfl ?_
          refine ce_iload_n dX4_spendEvening_96 rfl ?_
          refine ce_sipush (v := nI (1024)) dX4_spendEvening_97 (by decide) ?_
          refine ce_idiv (z := nI ((R) / (1024))) dX4_spendEvening_100 (nI_ne0 (by omega) (by omega)) (pk_div (by omega) (by omega) (by omega)) ?_
          refine ce_aload_n dX4_spendEvening_101 rfl ?_
          refine ce_getR dX4_spendEvening_102 fRX4_12 hL.1 hL.2.1 ?_
          refine ce_getIv dX4_spendEvening_105 fRX4_70 (hL.2.2).1 (hr).1 ?_
          refine ce_irem (z := nI (((R) / (1024)) % (K 0 0))) dX4_spendEvening_108 (nI_ne0 (by omega) (by omega)) (pk_rem (by omega) (by omega) (by omega)) ?_
          have ho2 : R / 1024 % K 0 0 < K 0 0 := Nat.mod_lt _ (by omega)
          generalize ho : R / 1024 % K 0 0 = o
          rw [ho] at ho2
          have ho3 : ke_o K R = o := ho
          refine ce_iload_n dX4_spendEvening_109 rfl ?_
          refine ce_iconst (v := nI (1)) dX4_spendEvening_110 (by decide) ?_
          refine ce_cVr dX4_spendEvening_111 hX4_gives kRX4_36 (m_X4_gives r K O hL hr hk (m) (o) (w) (1) (by omega) (by omega) (by omega) (by omega) (kv_gifF K (nI (m)) (nI (o)) (nI (w)) (nI (1))) rfl (kv_F3 K (nI (m)) (nI (o)) (nI (w)) (nI (1))).2.2.2.2.1) rfl rfl hL.1 rfl (by decide) (Nat.le_of_ble_eq_true rfl) (fun rcg1 cg1 hcg1 => ?_)
          obtain ⟨rfl, hcg12, hcg13⟩ := hcg1
          refine ce_pop dX4_spendEvening_114 rfl ?_
          have eF : ke_f K R = kv_gifF K (nI m) (nI o) (nI w) (nI 1) := by rw [show ke_f K R = _ from (if_neg (by omega)).trans ((if_neg (by omega)).trans (if_neg (by omega)))]; rw [hm3, hw3, ho3]
          have eK : ke_K K R = kv_han K m o w 1 := by rw [show ke_K K R = _ from (if_neg (by omega)).trans (if_neg (by omega))]; rw [hm3, hw3, ho3]
          have eO : ke_O K O R = O := by rw [show ke_O K O R = _ from if_neg (by omega)]
          rw [eF, eK, eO]
          exact ce_vret dX4_spendEvening_115 rfl (by decide) (by decide) ⟨rfl, rfl, hcg12, hcg13⟩
        · refine ce_aload_n dX4_spendEvening_84 rfl ?_
          refine ce_iload_n dX4_spendEvening_85 rfl ?_
          refine ce_iload_n dX4_spendEvening_86 rfl ?_
          refine ce_cVr dX4_spendEvening_87 hX4_corks kRX4_40 (m_X4_corks r K O hL hr hk (m) (w) (by omega) (by omega) (kv_corF K (nI (m)) (nI (w))) rfl (kv_F3 K (nI (m)) (nI (w)) (nI (m)) (nI (m))).2.2.2.2.2.1) rfl rfl hL.1 rfl (by decide) (Nat.le_of_ble_eq_true rfl) (fun rcg1 cg1 hcg1 => ?_)
          obtain ⟨rfl, hcg12, hcg13⟩ := hcg1
          refine ce_pop dX4_spendEvening_90 rfl ?_
          refine ce_goto (tgt := 115) dX4_spendEvening_91 (by decide) ?_
          have eF : ke_f K R = kv_corF K (nI m) (nI w) := by rw [show ke_f K R = _ from (if_neg (by omega)).trans ((if_neg (by omega)).trans (if_pos (by omega)))]; rw [hm3, hw3]
          have eK : ke_K K R = kv_cor K m w := by rw [show ke_K K R = _ from (if_neg (by omega)).trans (if_pos (by omega))]; rw [hm3, hw3]
          have eO : ke_O K O R = ko_cor K m w O := by rw [show ke_O K O R = _ from if_pos (by omega)]; rw [hm3, hw3]
          rw [eF, eK, eO]
          exact ce_vret dX4_spendEvening_115 rfl (by decide) (by decide) ⟨rfl, rfl, hcg12, hcg13⟩
      · refine ce_aload_n dX4_spendEvening_59 rfl ?_
        refine ce_iload_n dX4_spendEvening_60 rfl ?_
        refine ce_iload_n dX4_spendEvening_61 rfl ?_
        refine ce_iconst (v := nI (1)) dX4_spendEvening_62 (by decide) ?_
        refine ce_iload_n dX4_spendEvening_63 rfl ?_
        refine ce_sipush (v := nI (1024)) dX4_spendEvening_64 (by decide) ?_
        refine ce_idiv (z := nI ((R) / (1024))) dX4_spendEvening_67 (nI_ne0 (by omega) (by omega)) (pk_div (by omega) (by omega) (by omega)) ?_
        refine ce_iconst (v := nI (3)) dX4_spendEvening_68 (by decide) ?_
        refine ce_irem (z := nI (((R) / (1024)) % (3))) dX4_spendEvening_69 (nI_ne0 (by omega) (by omega)) (pk_rem (by omega) (by omega) (by omega)) ?_
        refine ce_iadd (z := nI (1 + (((R) / (1024)) % (3)))) dX4_spendEvening_70 (nI_add _ _) ?_
        refine ce_cVr dX4_spendEvening_71 hX4_drinks kRX4_33 (m_X4_drinks r K O hL hr hk (m) (w) (1 + (((R) / (1024)) % (3))) (by omega) (by omega) (by omega) (kv_driF K (nI (m)) (nI (w)) (nI (1 + (((R) / (1024)) % (3))))) rfl (kv_F3 K (nI (m)) (nI (w)) (nI (m)) (nI (1 + (((R) / (1024)) % (3))))).2.2.2.1) rfl rfl hL.1 rfl (by decide) (Nat.le_of_ble_eq_true rfl) (fun rcg1 cg1 hcg1 => ?_)
        obtain ⟨rfl, hcg12, hcg13⟩ := hcg1
        refine ce_pop dX4_spendEvening_74 rfl ?_
        refine ce_goto (tgt := 115) dX4_spendEvening_75 (by decide) ?_
        have eF : ke_f K R = kv_driF K (nI m) (nI w) (nI (1 + R / 1024 % 3)) := by rw [show ke_f K R = _ from (if_neg (by omega)).trans (if_pos (by omega))]; rw [hm3, hw3]
        have eK : ke_K K R = kv_dri K m w (1 + R / 1024 % 3) := by rw [show ke_K K R = _ from if_pos (by omega)]; rw [hm3, hw3]
        have eO : ke_O K O R = O := by rw [show ke_O K O R = _ from if_neg (by omega)]
        rw [eF, eK, eO]
        exact ce_vret dX4_spendEvening_115 rfl (by decide) (by decide) ⟨rfl, rfl, hcg12, hcg13⟩
    · have eF : ke_f K R = 9 := if_pos (by omega)
      rw [eF]
      exact ce_vret dX4_spendEvening_20 rfl (by decide) (by decide) ⟨rfl, rfl, hr, ce_fr.rf⟩
