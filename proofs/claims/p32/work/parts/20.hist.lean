set_option maxHeartbeats 2000000 in
set_option maxRecDepth 20000 in
theorem w_X1_forgetOldest {g : ce_D} (σ0 : ce_S) (h : Nat) (b : Nat → Nat) (hLS : ce_LS σ0 h) (hb : ∀ i, i < 14 → ce_kd σ0 (b i) = 0 + 1) (hn : g h 1 = nI 14) : ∀ (n9 : Nat) (σ : ce_S) (i : Nat), 15 - i < n9 → 1 ≤ i → i ≤ 14 → ce_sm (h + 1) σ0 σ → (∀ j, (j < i - 1 → ce_gr σ (h + 1) j = some (ce_ro b j)) ∧ (i - 1 ≤ j → j < 14 → ce_gr σ (h + 1) j = some (b j))) → ce_WP (ce_r 0) mX1_forgetOldest 0 0 9 [some (.ref (h)), some (.ref (b 0)), some (.int (nI (i)))] [] σ g (ce_sv (fun σ1 g1 => ce_sm (h + 1) σ0 σ1 ∧ (∀ j, j < 14 → ce_gr σ1 (h + 1) j = some (ce_ro b j)) ∧ g1 = ce_up g h 1 (nI 13))) ce_no := by
  intro n9
  induction n9 with
  | zero =>
    intros
    omega
  | succ n9 ih =>
    intro σ i hm hi hi2 hs hr
    refine ce_iload_n dX1_forgetOldest_9 rfl ?_
    refine ce_bipush (v := nI (14)) dX1_forgetOldest_10 (by decide) ?_
    refine ce_icmp_geN (tgt := 35) dX1_forgetOldest_12 (by decide) rfl rfl (by omega) (by omega) (fun c_12 => ?_) (fun c_12 => ?_)
    · refine ce_aload_n dX1_forgetOldest_35 rfl ?_
      refine ce_getR dX1_forgetOldest_36 fRX1_11 ((hLS.sm hs)).1 ((hLS.sm hs)).2.1 ?_
      refine ce_bipush (v := nI (13)) dX1_forgetOldest_39 (by decide) ?_
      refine ce_aload_n dX1_forgetOldest_41 rfl ?_
      refine ce_aast dX1_forgetOldest_42 (((hLS.sm hs)).2.2).1 (by rw [hs.2.1]; exact hb 0 (by omega)) rfl (((hLS.sm hs)).2.2).2 (by omega) (by decide) ?_
      generalize hcs1 : ce_upR σ (h + 1) (13) (some (b 0)) = cs1
      have hs1 : ce_sm (h + 1) σ0 cs1 := hcs1 ▸ hs.tr ce_sm.up
      have hr1 : ∀ j, j < 14 → ce_gr cs1 (h + 1) j = some (ce_ro b j) := by
        intro j hj
        rw [← hcs1, ce_upR_eq]
        by_cases e : j = 13
        · rw [if_pos e]; unfold ce_ro; rw [if_pos e]
        · rw [if_neg e]; exact (hr j).1 (by omega)
      refine ce_aload_n dX1_forgetOldest_43 rfl ?_
      refine ce_dup dX1_forgetOldest_44 rfl ?_
      refine ce_getIv dX1_forgetOldest_45 fRX1_18 ((hLS.sm hs1)).1 hn ?_
      refine ce_iconst (v := nI (1)) dX1_forgetOldest_48 (by decide) ?_
      refine ce_isub (z := nI (14 - (1))) dX1_forgetOldest_49 (pk_sub (by omega)) ?_
      refine ce_putI dX1_forgetOldest_50 pRX1_18 ((hLS.sm hs1)).1 rfl rfl ?_
      generalize hcg1 : ce_up g (h) 1 (nI (14 - (1))) = cg1
      exact ce_vret dX1_forgetOldest_53 rfl (by decide) (by decide) ⟨rfl, hs1, hr1, (by rw [← hcg1])⟩
    · refine ce_aload_n dX1_forgetOldest_15 rfl ?_
      refine ce_getR dX1_forgetOldest_16 fRX1_11 ((hLS.sm hs)).1 ((hLS.sm hs)).2.1 ?_
      refine ce_iload_n dX1_forgetOldest_19 rfl ?_
      refine ce_iconst (v := nI (1)) dX1_forgetOldest_20 (by decide) ?_
      refine ce_isub (z := nI (i - (1))) dX1_forgetOldest_21 (pk_sub (by omega)) ?_
      refine ce_aload_n dX1_forgetOldest_22 rfl ?_
      refine ce_getR dX1_forgetOldest_23 fRX1_11 ((hLS.sm hs)).1 ((hLS.sm hs)).2.1 ?_
      refine ce_iload_n dX1_forgetOldest_26 rfl ?_
      refine ce_aald dX1_forgetOldest_27 (((hLS.sm hs)).2.2).1 rfl (((hLS.sm hs)).2.2).2 (by omega) (by decide) ((hr i).2 (by omega) (by omega)) ?_
      refine ce_aast dX1_forgetOldest_28 (((hLS.sm hs)).2.2).1 (by rw [hs.2.1]; exact hb (i) (by omega)) rfl (((hLS.sm hs)).2.2).2 (by omega) (by decide) ?_
      generalize hcs2 : ce_upR σ (h + 1) (i - (1)) (some (b (i))) = cs2
      have hs1 : ce_sm (h + 1) σ0 cs2 := hcs2 ▸ hs.tr ce_sm.up
      have hr1 : ∀ j, (j < i + 1 - 1 → ce_gr cs2 (h + 1) j = some (ce_ro b j)) ∧ (i + 1 - 1 ≤ j → j < 14 → ce_gr cs2 (h + 1) j = some (b j)) := by
        intro j
        rw [← hcs2, ce_upR_eq]
        refine ⟨fun hj => ?_, fun h1 h2 => ?_⟩
        · by_cases e : j = i - 1
          · rw [if_pos e]; unfold ce_ro; rw [if_neg (by omega), show j + 1 = i by omega]
          · rw [if_neg e]; exact (hr j).1 (by omega)
        · rw [if_neg (by omega)]; exact (hr j).2 (by omega) h2
      refine ce_iinc (v := nI (i + 1)) dX1_forgetOldest_29 rfl (ce_inc1 _) (Nat.le_of_ble_eq_true rfl) rfl ?_
      refine ce_goto (tgt := 9) dX1_forgetOldest_32 (by decide) ?_
      exact ih cs2 (i + 1) (by omega) (by omega) (by omega) hs1 hr1
set_option maxHeartbeats 2000000 in
set_option maxRecDepth 20000 in
theorem m_X1_forgetOldest {g : ce_D} (σ0 : ce_S) (h : Nat) (b : Nat → Nat) (hLS : ce_LS σ0 h) (hb : ∀ i, i < 14 → ce_kd σ0 (b i) = 0 + 1) (hn : g h 1 = nI 14) (hr0 : ∀ j, j < 14 → ce_gr σ0 (h + 1) j = some (b j)) : ce_CT (ce_r 0) mX1_forgetOldest [.ref (h)] σ0 g (ce_sv (fun σ1 g1 => ce_sm (h + 1) σ0 σ1 ∧ (∀ j, j < 14 → ce_gr σ1 (h + 1) j = some (ce_ro b j)) ∧ g1 = ce_up g h 1 (nI 13))) ce_no := by
  refine ce_enter (by decide) rfl (Nat.le_of_ble_eq_true rfl) (L := [some (.ref (h)), none, none]) rfl ?_
  refine ce_aload_n dX1_forgetOldest_0 rfl ?_
  refine ce_getR dX1_forgetOldest_1 fRX1_11 (hLS).1 (hLS).2.1 ?_
  refine ce_iconst (v := nI (0)) dX1_forgetOldest_4 (by decide) ?_
  refine ce_aald dX1_forgetOldest_5 ((hLS).2.2).1 rfl ((hLS).2.2).2 (by omega) (by decide) (hr0 _ (by omega)) ?_
  refine ce_astore_n dX1_forgetOldest_6 (Nat.le_of_ble_eq_true rfl) rfl ?_
  refine ce_iconst (v := nI (1)) dX1_forgetOldest_7 (by decide) ?_
  refine ce_istore_n dX1_forgetOldest_8 (Nat.le_of_ble_eq_true rfl) rfl ?_
  exact w_X1_forgetOldest σ0 h b hLS hb hn 15 σ0 1 (by omega) (by omega) (by omega) ce_sm.rf (fun j => ⟨fun hj => by omega, fun h1 h2 => hr0 j h2⟩)
set_option maxHeartbeats 2000000 in
set_option maxRecDepth 20000 in
theorem m_X1_remember {σ : ce_S} {g : ce_D} (h c : Nat) (b : Nat → Nat) (n : Nat) (KH : Nat → ce_V) (OH : Nat → Nat → Int32) (K : ce_V) (O : Nat → Int32) (hH : ce_LH σ h b) (hr : ce_rH g h b n KH OH) (hL : ce_LC σ c) (hc : ce_rC g c K O) (hk : kv_rk K) (hd : c + 20 ≤ h ∨ h + 282 ≤ c) : ce_CT (ce_r 4) mX1_remember [.ref (h), .ref (c)] σ g (ce_sv (fun σ1 g1 => ∃ b1, ce_sm (h + 1) σ σ1 ∧ ce_LH σ1 h b1 ∧ ce_rH g1 h b1 (kh_n n) (kh_f n KH K) (kh_f n OH O) ∧ ce_fr h (h + 282) g g1)) ce_no := by
  have hn1 := hr.1
  refine ce_enter (by decide) rfl (Nat.le_of_ble_eq_true rfl) (L := [some (.ref (h)), some (.ref (c))]) rfl ?_
  refine ce_aload_n dX1_remember_0 rfl ?_
  refine ce_getIv dX1_remember_1 fRX1_18 (hH).1.1 hr.2.1 ?_
  refine ce_bipush (v := nI (14)) dX1_remember_4 (by decide) ?_
  refine ce_icmp_neN (tgt := 13) dX1_remember_6 (by decide) rfl rfl (by omega) (by omega) (fun c_6 => ?_) (fun c_6 => ?_)
  · have qi := hH.2.2.2.in (i := n) (by have := hr.1; omega)
    have hn1 := hr.1
    refine ce_aload_n dX1_remember_13 rfl ?_
    refine ce_getR dX1_remember_14 fRX1_11 (hH).1.1 (hH).1.2.1 ?_
    refine ce_aload_n dX1_remember_17 rfl ?_
    refine ce_getIv dX1_remember_18 fRX1_18 (hH).1.1 hr.2.1 ?_
    refine ce_aald dX1_remember_21 ((hH).1.2.2).1 rfl ((hH).1.2.2).2 (by omega) (by decide) ((hH).2.1 (n) (by omega)) ?_
    refine ce_aload_n dX1_remember_22 rfl ?_
    refine ce_cVu dX1_remember_23 hX0_copyFrom kRX1_25 (m_X0_copyFrom (b (n)) c K O ((hH).2.2.1 (n) (by omega)) hL hc hk (by omega)) rfl rfl ((hH).2.2.1 (n) (by omega)).1 rfl (by decide) (Nat.le_of_ble_eq_true rfl) (fun cg1 hcg1 => ?_)
    refine ce_aload_n dX1_remember_26 rfl ?_
    refine ce_dup dX1_remember_27 rfl ?_
    refine ce_getIv dX1_remember_28 fRX1_18 (hH).1.1 ((congrFun (hcg1.2 h (by omega)) 1).trans (hr.2.1)) ?_
    refine ce_iconst (v := nI (1)) dX1_remember_31 (by decide) ?_
    refine ce_iadd (z := nI (n + 1)) dX1_remember_32 (nI_add _ _) ?_
    refine ce_putI dX1_remember_33 pRX1_18 (hH).1.1 rfl rfl ?_
    generalize hcg2 : ce_up cg1 (h) 1 (nI (n + 1)) = cg2
    have q9 := rH_add hH.2.2.2 hr c_6 hcg1.1 hcg1.2 hcg2
    exact ce_vret dX1_remember_36 rfl (by decide) (by decide) ⟨rfl, b, ce_sm.rf, hH, q9.1, q9.2⟩
  · refine ce_aload_n dX1_remember_9 rfl ?_
    refine ce_cVs dX1_remember_10 hX1_forgetOldest kRX1_22 (m_X1_forgetOldest σ h b hH.1 (fun i hi => (hH.2.2.1 i hi).1) (c_6 ▸ hr.2.1) hH.2.1) rfl rfl (hH).1.1 rfl (by decide) (Nat.le_of_ble_eq_true rfl) (fun cs1 cg1 hcg1 => ?_)
    have q1 := LH_ro hH hcg1.1 hcg1.2.1
    have q2 := hL.sm hcg1.1 (by omega)
    have q3 := rH_old hH.2.2.2 (c_6 ▸ hr) hcg1.2.2
    have q4 : ce_rC cg1 c K O := hc.kp (fun i hi => by rw [hcg1.2.2]; exact ce_up_ne _ _ _ (by omega))
    have qi := q1.2.2.2.in (i := 13) (by omega)
    refine ce_aload_n dX1_remember_13 rfl ?_
    refine ce_getR dX1_remember_14 fRX1_11 (q1).1.1 (q1).1.2.1 ?_
    refine ce_aload_n dX1_remember_17 rfl ?_
    refine ce_getIv dX1_remember_18 fRX1_18 (q1).1.1 q3.2.1 ?_
    refine ce_aald dX1_remember_21 ((q1).1.2.2).1 rfl ((q1).1.2.2).2 (by omega) (by decide) ((q1).2.1 (13) (by omega)) ?_
    refine ce_aload_n dX1_remember_22 rfl ?_
    refine ce_cVu dX1_remember_23 hX0_copyFrom kRX1_25 (m_X0_copyFrom (ce_ro b (13)) c K O ((q1).2.2.1 (13) (by omega)) q2 q4 hk (by omega)) rfl rfl ((q1).2.2.1 (13) (by omega)).1 rfl (by decide) (Nat.le_of_ble_eq_true rfl) (fun cg2 hcg2 => ?_)
    refine ce_aload_n dX1_remember_26 rfl ?_
    refine ce_dup dX1_remember_27 rfl ?_
    refine ce_getIv dX1_remember_28 fRX1_18 (q1).1.1 ((congrFun (hcg2.2 h (by omega)) 1).trans (q3.2.1)) ?_
    refine ce_iconst (v := nI (1)) dX1_remember_31 (by decide) ?_
    refine ce_iadd (z := nI (13 + 1)) dX1_remember_32 (nI_add _ _) ?_
    refine ce_putI dX1_remember_33 pRX1_18 (q1).1.1 rfl rfl ?_
    generalize hcg3 : ce_up cg2 (h) 1 (nI (13 + 1)) = cg3
    have q9 := rH_add q1.2.2.2 q3 (by decide) hcg2.1 hcg2.2 hcg3
    have q8 : ce_fr h (h + 282) g cg3 := fun a ha => (q9.2 a ha).trans (by rw [hcg1.2.2]; exact ce_up_ne _ _ _ (by omega))
    rw [kh_f_13, kh_f_13, show kh_n 13 = kh_n 14 from rfl, ← c_6] at q9
    exact ce_vret dX1_remember_36 rfl (by decide) (by decide) ⟨rfl, ce_ro b, hcg1.1, q1, q9.1, q8⟩
set_option maxHeartbeats 2000000 in
set_option maxRecDepth 20000 in
theorem m_X1_takeBack {σ : ce_S} {g : ce_D} (h c : Nat) (b : Nat → Nat) (n : Nat) (KH : Nat → ce_V) (OH : Nat → Nat → Int32) (hH : ce_LH σ h b) (hr : ce_rH g h b n KH OH) (hL : ce_LC σ c) (hk : ∀ i, i < n → kv_rk (KH i)) (hn : 0 < n) (hd : c + 20 ≤ h ∨ h + 282 ≤ c) : ce_CT (ce_r 4) mX1_takeBack [.ref (h), .ref (c)] σ g (ce_rv σ (fun r g1 => r = nI (n - 1) ∧ ce_rC g1 c (KH (n - 1)) (OH (n - 1)) ∧ ce_rH g1 h b (n - 1) KH OH ∧ ∀ a, a ≠ h → (a < c ∨ c + 20 ≤ a) → g1 a = g a)) ce_no := by
  have hn1 := hr.1
  have qi := hH.2.2.2.in (i := n - 1) (by omega)
  refine ce_enter (by decide) rfl (Nat.le_of_ble_eq_true rfl) (L := [some (.ref (h)), some (.ref (c))]) rfl ?_
  refine ce_aload_n dX1_takeBack_0 rfl ?_
  refine ce_getIv dX1_takeBack_1 fRX1_18 (hH).1.1 hr.2.1 ?_
  refine ce_if_leN (tgt := 30) dX1_takeBack_4 (by decide) rfl (by omega) (fun c_4 => ?_) (fun c_4 => ?_)
  · omega
  · refine ce_aload_n dX1_takeBack_7 rfl ?_
    refine ce_dup dX1_takeBack_8 rfl ?_
    refine ce_getIv dX1_takeBack_9 fRX1_18 (hH).1.1 hr.2.1 ?_
    refine ce_iconst (v := nI (1)) dX1_takeBack_12 (by decide) ?_
    refine ce_isub (z := nI (n - (1))) dX1_takeBack_13 (pk_sub (by omega)) ?_
    refine ce_putI dX1_takeBack_14 pRX1_18 (hH).1.1 rfl rfl ?_
    generalize hcg1 : ce_up g (h) 1 (nI (n - (1))) = cg1
    have q2 : cg1 h 1 = nI (n - 1) := by rw [← hcg1]; exact ce_up_at _ _ _ _
    have q3 : ce_rC cg1 (b (n - 1)) (KH (n - 1)) (OH (n - 1)) := (hr.2.2 (n - 1) (by omega)).kp (fun j hj => by rw [← hcg1]; exact ce_up_ne _ _ _ (by omega))
    refine ce_aload_n dX1_takeBack_17 rfl ?_
    refine ce_aload_n dX1_takeBack_18 rfl ?_
    refine ce_getR dX1_takeBack_19 fRX1_11 (hH).1.1 (hH).1.2.1 ?_
    refine ce_aload_n dX1_takeBack_22 rfl ?_
    refine ce_getIv dX1_takeBack_23 fRX1_18 (hH).1.1 q2 ?_
    refine ce_aald dX1_takeBack_26 ((hH).1.2.2).1 rfl ((hH).1.2.2).2 (by omega) (by decide) ((hH).2.1 (n - 1) (by omega)) ?_
    refine ce_cVu dX1_takeBack_27 hX0_copyFrom kRX1_25 (m_X0_copyFrom c (b (n - 1)) (KH (n - 1)) (OH (n - 1)) hL ((hH).2.2.1 (n - 1) (by omega)) (q3) (hk (n - 1) (by omega)) (by omega)) rfl rfl (hL).1 rfl (by decide) (Nat.le_of_ble_eq_true rfl) (fun cg2 hcg2 => ?_)
    refine ce_aload_n dX1_takeBack_30 rfl ?_
    refine ce_getIv dX1_takeBack_31 fRX1_18 (hH).1.1 ((congrFun (hcg2.2 h (by omega)) 1).trans (q2)) ?_
    refine ce_iret dX1_takeBack_34 rfl rfl (by decide) (by decide) ?_
    refine ⟨_, rfl, rfl, rfl, hcg2.1, ⟨by omega, ((congrFun (hcg2.2 h (by omega)) 1).trans (q2)), fun i hi => ?_⟩, fun a ha hb => ?_⟩
    · have qj := hH.2.2.2.in (i := i) (by omega)
      exact ((hr.2.2 i (by omega)).kp (fun j hj => (by rw [← hcg1]; exact ce_up_ne _ _ _ (by omega) : cg1 (b i + j) = g (b i + j)))).fr hcg2.2 (by omega)
    · exact (hcg2.2 a hb).trans (by rw [← hcg1]; exact ce_up_ne _ _ _ ha)
set_option maxHeartbeats 2000000 in
set_option maxRecDepth 20000 in
theorem m_X1_forgetAll {σ : ce_S} {g : ce_D} (h : Nat) (b : Nat → Nat) (hH : ce_LH σ h b) : ce_CT (ce_r 0) mX1_forgetAll [.ref (h)] σ g (ce_uv σ (fun g1 => g1 = ce_up g h 1 (nI 0))) ce_no := by
  refine ce_enter (by decide) rfl (Nat.le_of_ble_eq_true rfl) (L := [some (.ref (h))]) rfl ?_
  refine ce_aload_n dX1_forgetAll_0 rfl ?_
  refine ce_iconst (v := nI (0)) dX1_forgetAll_1 (by decide) ?_
  refine ce_putI dX1_forgetAll_2 pRX1_18 (hH).1.1 rfl rfl ?_
  generalize hcg1 : ce_up g (h) 1 (nI (0)) = cg1
  exact ce_vret dX1_forgetAll_5 rfl (by decide) (by decide) ⟨rfl, rfl, (by subst hcg1; rfl)⟩
