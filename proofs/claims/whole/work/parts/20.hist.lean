set_option maxHeartbeats 2000000 in
set_option maxRecDepth 20000 in
theorem w_X1_forgetOldest {g : ce_D} (σ0 : ce_S) (h : Nat) (b : Nat → Nat) (hLS : ce_LS σ0 h) (hb : ∀ i, i < 14 → ce_kd σ0 (b i) = 0 + 1) (hn : g h 1 = nI 14) : ∀ (n9 : Nat) (σ : ce_S) (i : Nat), 15 - i < n9 → 1 ≤ i → i ≤ 14 → ce_sm (h + 1) σ0 σ → (∀ j, (j < i - 1 → ce_gr σ (h + 1) j = some (ce_ro b j)) ∧ (i - 1 ≤ j → j < 14 → ce_gr σ (h + 1) j = some (b j))) → ce_WP (ce_r 0) mX1_forgetOldest 0 0 9 [some (.ref (h)), some (.ref (b 0)), some (.int (nI (i)))] [] σ g (ce_sv (fun σ1 g1 => ce_sm (h + 1) σ0 σ1 ∧ (∀ j, j < 14 → ce_gr σ1 (h + 1) j = some (ce_ro b j)) ∧ g1 = ce_up g h 1 (nI 13))) ce_no := by
  intro n9
  induction n9 with
  | zero =>
    intros
    omega
  | succ n9 ih =>
    intro σ i hm hi hi2 hs hr
    refine ce_iload_n dX1_forgetOldest_9 rfl ?_
    refine ce_bipush (v := nI (14)) dX1_forgetOldest_10 (by decide) ?_
    refine ce_icmp_geN (tgt := 35) dX1_forgetOldest_12 (by decide) rfl rfl (by omega) (by omega) (fun c_12 => ?_) (fun c_12 => ?_)
    · refine ce_aload_n dX1_forgetOldest_35 rfl ?_
      refine ce_getR dX1_forgetOldest_36 fRX1_11 ((hLS.sm hs)).1 ((hLS.sm hs)).2.1 ?_
      refine ce_bipush (v := nI (13)) dX1_forgetOldest_39 (by decide) ?_
      refine ce_aload_n dX1_forgetOldest_41 rfl ?_
      refine ce_aast dX1_forgetOldest_42 (((hLS.sm hs)).2.2).1 (by rw [hs.2.1]; exact hb 0 (by omega)) rfl (((hLS.sm hs)).2.2).2 (by omega) (by decide) ?_
      generalize hcs1 : ce_upR σ (h + 1) (13) (some (b 0)) = cs1
      have hs1 : ce_sm (h + 1) σ0 cs1 := hcs1 ▸ hs.tr ce_sm.up
      have hr1 : ∀ j, j < 14 → ce_gr cs1 (h + 1) j = some (ce_ro b j) := by
        intro j hj
        rw [← hcs1, ce_upR_eq]
        by_cases e : j = 13
        · rw [if_pos e]; unfold ce_ro; rw [if_pos e]
        · rw [if_neg e]; exact (hr j).1 (by omega)
      refine ce_aload_n dX1_forgetOldest_43 rfl ?_
      refine ce_dup dX1_forgetOldest_44 rfl ?_
      refine ce_getIv dX1_forgetOldest_45 fRX1_18 ((hLS.sm hs1)).1 hn ?_
      refine ce_iconst (v := nI (1)) dX1_forgetOldest_48 (by decide) ?_
      refine ce_isub (z := nI (14 - (1))) dX1_forgetOldest_49 (pk_sub (by omega)) ?_
      refine ce_putI dX1_forgetOldest_50 pRX1_18 ((hLS.sm hs1)).1 rfl rfl ?_
      generalize hcg1 : ce_up g (h) 1 (nI (14 - (1))) = cg1
      exact ce_vret dX1_forgetOldest_53 rfl (by decide) (by decide) ⟨rfl, hs1, hr1, (by rw [← hcg1])⟩
    · refine ce_aload_n dX1_forgetOldest_15 rfl ?_
      refine ce_getR dX1_forgetOldest_16 fRX1_11 ((hLS.sm hs)).1 ((hLS.sm hs)).2.1 ?_
      refine ce_iload_n dX1_forgetOldest_19 rfl ?_
      refine ce_iconst (v := nI (1)) dX1_forgetOldest_20 (by decide) ?_
      refine ce_isub (z := nI (i - (1))) dX1_forgetOldest_21 (pk_sub (by omega)) ?_
      refine ce_aload_n dX1_forgetOldest_22 rfl ?_
      refine ce_getR dX1_forgetOldest_23 fRX1_11 ((hLS.sm hs)).1 ((hLS.sm hs)).2.1 ?_
      refine ce_iload_n dX1_forgetOldest_26 rfl ?_
      refine ce_aald dX1_forgetOldest_27 (((hLS.sm hs)).2.2).1 rfl (((hLS.sm hs)).2.2).2 (by omega) (by decide) ((hr i).2 (by omega) (by omega)) ?_
      refine ce_aast dX1_forgetOldest_28 (((hLS.sm hs)).2.2).1 (by rw [hs.2.1]; exact hb (i) (by omega)) rfl (((hLS.sm hs)).2.2).2 (by omega) (by decide) ?_
      generalize hcs2 : ce_upR σ (h + 1) (i - (1)) (some (b (i))) = cs2
      have hs1 : ce_sm (h + 1) σ0 cs2 := hcs2 ▸ hs.tr ce_sm.up
      have hr1 : ∀ j, (j < i + 1 - 1 → ce_gr cs2 (h + 1) j = some (ce_ro b j)) ∧ (i + 1 - 1 ≤ j → j < 14 → ce_gr cs2 (h + 1) j = some (b j)) := by
        intro j
        rw [← hcs2, ce_upR_eq]
        refine ⟨fun hj => ?_, fun h1 h2 => ?_⟩
        · by_cases e : j = i - 1
          · rw [if_pos e]; unfold ce_ro; rw [if_neg (by omega), show j + 1 = i by omega]
          · rw [if_neg e]; exact (hr j).1 (by omega)
        · rw [if_neg (by omega)]; exact (hr j).2 (by omega) h2
      refine ce_iinc (v := nI (i + 1)) dX1_forgetOldest_29 rfl (ce_inc1 _) (Nat.le_of_ble_eq_true rfl) rfl ?_
      refine ce_goto (tgt := 9) dX1_forgetOldest_32 (by decide) ?_
      exact ih cs2 (i + 1) (by omega) (by omega) (by omega) hs1 hr1
set_option maxHeartbeats 2000000 in
set_option maxRecDepth 20000 in
theorem m_X1_forgetOldest {g : ce_D} (σ0 : ce_S) (h : Nat) (b : Nat → Nat) (hLS : ce_LS σ0 h) (hb : ∀ i, i < 14 → ce_kd σ0 (b i) = 0 + 1) (hn : g h 1 = nI 14) (hr0 : ∀ j, j < 14 → ce_gr σ0 (h + 1) j = some (b j)) : ce_CT (ce_r 0) mX1_forgetOldest [.ref (h)] σ0 g (ce_sv (fun σ1 g1 => ce_sm (h + 1) σ0 σ1 ∧ (∀ j, j < 14 → ce_gr σ1 (h + 1) j = some (ce_ro b j)) ∧ g1 = ce_up g h 1 (nI 13))) ce_no := by
  refine ce_enter (by decide) rfl (Nat.le_of_ble_eq_true rfl) (L := [some (.ref (h)), none, none]) rfl ?_
  refine ce_aload_n dX1_forgetOldest_0 rfl ?_
  refine ce_getR dX1_forgetOldest_1 fRX1_11 (hLS).1 (hLS).2.1 ?_
  refine ce_iconst (v := nI (0)) dX1_forgetOldest_4 (by decide) ?_
  refine ce_aald dX1_forgetOldest_5 ((hLS).2.2).1 rfl ((hLS).2.2).2 (by omega) (by decide) (hr0 _ (by omega)) ?_
  refine ce_astore_n dX1_forgetOldest_6 (Nat.le_of_ble_eq_true rfl) rfl ?_
  refine ce_iconst (v := nI (1)) dX1_forgetOldest_7 (by decide) ?_
  refine ce_istore_n dX1_forgetOldest_8 (Nat.le_of_ble_eq_true rfl) rfl ?_
  exact w_X1_forgetOldest σ0 h b hLS hb hn 15 σ0 1 (by omega) (by omega) (by omega) ce_sm.rf (fun j => ⟨fun hj => by omega, fun h1 h2 => hr0 j h2⟩)
