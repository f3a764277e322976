def kp_st (g0 g : ce_D) (a sets : Nat) (K : ce_V) (FL : Nat → Bool) : Prop := (∀ j, j < sets → g (a + 367) j = nI (kp_room K j (K 0 2))) ∧ (∀ j, j < sets → g (a + 368) j = if FL j = true then 1 else 0) ∧ ∀ x, x ≠ a + 367 → x ≠ a + 368 → g x = g0 x
theorem kp_min_le {FL : Nat → Bool} {v : Nat} : ∀ s, kp_min FL v s ≤ v
  | 0 => Nat.le_refl _
  | s + 1 => by
    have := kp_min_le (FL := FL) (v := v) s
    unfold kp_min
    split <;> omega
/-- the packing's rows changed, no more -/
theorem rX_pack {g g1 : ce_D} {a : Nat} {b : Nat → Nat} {S : ks_S} (hr : ce_rX g a b S) (hb : ce_bk (a + 63) b) (hq : ∀ x, x ≠ a + 367 → x ≠ a + 368 → g1 x = g x) : ce_rX g1 a b S := by
  obtain ⟨r1, r2, ⟨r3, r4⟩, r5, r6, r7, r8⟩ := hr
  refine ⟨r1.kp (fun i hi => hq _ (by omega) (by omega)), ⟨r2.1, ?_, fun i hi => ?_⟩, ⟨fun s hs => ?_, fun s hs hF => ?_⟩, r5, ?_, fun i hi => ?_, ?_⟩
  · rw [hq _ (by omega) (by omega)]; exact r2.2.1
  · have h14 : sn S ≤ 14 := r2.1
    have hi2 : i < sn S := hi
    have := hb.in (i := i) (by omega)
    exact (r2.2.2 i hi).kp (fun j hj => hq _ (by omega) (by omega))
  · rw [hq _ (by omega) (by omega)]; exact r3 s hs
  · exact (r4 s hs hF).kp (fun i hi => hq _ (by omega) (by omega))
  · rw [hq _ (by omega) (by omega)]; exact r6
  · rw [hq _ (by omega) (by omega)]; exact r7 i hi
  · exact r8.kp (fun i hi => hq _ (by omega) (by omega))
set_option maxHeartbeats 2000000 in
set_option maxRecDepth 20000 in
theorem w3_X2_fewest {σ : ce_S} {g0 : ce_D} (a : Nat) (b : Nat → Nat) (hX : ce_LX σ a b) (sets : Nat) (K : ce_V) (O : Nat → Int32) (hS : sets = 2 ^ K 0 2) (h256 : sets ≤ 256) (hk : kv_cl K) (hr0 : ce_rC g0 (a + 1) K O) (g : ce_D) (FL : Nat → Bool) (hFL : FL = kp_fl K (K 0 1)) (hA : kp_st g0 g a sets K FL) : ∀ (n9 s : Nat), sets - s < n9 → s ≤ sets → ce_WP (ce_r 2) mX2_fewest 0 0 100 [some (.ref (a + 366)), some (.ref ((a + 1))), some (.int (nI (K 0 2))), some (.int (nI (sets))), some (.int (nI (kp_min FL (K 0 2) s))), some (.int (nI (s)))] [] σ g (ce_rv σ (fun z9 g1 => z9 = nI (kp_few K) ∧ ∀ x, x ≠ a + 367 → x ≠ a + 368 → g1 x = g0 x)) ce_no := by
  intro n9
  induction n9 with
  | zero =>
    intros
    omega
  | succ n9 ih =>
    intro s hm hs
    have hl := kp_min_le (FL := FL) (v := K 0 2) s
    have hb8 := kp_bits_le s
    have hB := hk.i7
    refine ce_iload dX2_fewest_100 rfl ?_
    refine ce_iload_n dX2_fewest_102 rfl ?_
    refine ce_icmp_geN (tgt := 134) dX2_fewest_103 (by decide) rfl rfl (by omega) (by omega) (fun c_103 => ?_) (fun c_103 => ?_)
    · refine ce_iload dX2_fewest_134 rfl ?_
      refine ce_iret dX2_fewest_136 rfl rfl (by decide) (by decide) ?_
      exact ⟨_, rfl, rfl, congrArg nI (by unfold kp_few; rw [← hFL, ← hS, show s = sets by omega]), hA.2.2⟩
    · refine ce_aload_n dX2_fewest_106 rfl ?_
      refine ce_getR dX2_fewest_107 fRX2_15 hX.2.2.2.2.2.2.1.1 hX.2.2.2.2.2.2.1.2.1.2 ?_
      refine ce_iload dX2_fewest_110 rfl ?_
      refine ce_zaldv dX2_fewest_112 (hX.2.2.2.2.2.2.1.2.2.2).1 rfl (hX.2.2.2.2.2.2.1.2.2.2).2 (by omega) (by decide) (hA.2.1 _ (by omega)) ?_
      refine ce_if_eqB (tgt := 128) dX2_fewest_113 (by decide) rfl (fun c_113 => ?_) (fun c_113 => ?_)
      · refine ce_iinc (v := nI (s + 1)) dX2_fewest_128 rfl (ce_inc1 _) (Nat.le_of_ble_eq_true rfl) rfl ?_
        refine ce_goto (tgt := 100) dX2_fewest_131 (by decide) ?_
        have e9 : kp_min FL (K 0 2) (s + 1) = kp_min FL (K 0 2) s := if_neg c_113
        have e8 := ih (s + 1) (by omega) (by omega)
        rw [e9] at e8
        exact e8
      · refine ce_iload dX2_fewest_116 rfl ?_
        refine ce_iload dX2_fewest_118 rfl ?_
        refine ce_cSp dX2_fewest_120 hJ6_bitCount_0f7a4 kRX2_52 (m_J6_bitCount (s) (by omega)) rfl rfl (by decide) (Nat.le_of_ble_eq_true rfl) ?_
        refine ce_min dX2_fewest_123 kRX2_57 rfl rfl (by omega) (by omega) (by decide) (Nat.le_of_ble_eq_true rfl) ?_
        refine ce_istore dX2_fewest_126 (Nat.le_of_ble_eq_true rfl) rfl ?_
        refine ce_iinc (v := nI (s + 1)) dX2_fewest_128 rfl (ce_inc1 _) (Nat.le_of_ble_eq_true rfl) rfl ?_
        refine ce_goto (tgt := 100) dX2_fewest_131 (by decide) ?_
        have e9 : kp_min FL (K 0 2) (s + 1) = min (kp_min FL (K 0 2) s) (kp_bits s) := if_pos c_113
        have e8 := ih (s + 1) (by omega) (by omega)
        rw [e9] at e8
        exact e8
set_option maxHeartbeats 2000000 in
set_option maxRecDepth 20000 in
theorem w2_X2_fewest {σ : ce_S} {g0 : ce_D} (a : Nat) (b : Nat → Nat) (hX : ce_LX σ a b) (sets : Nat) (K : ce_V) (O : Nat → Int32) (hS : sets = 2 ^ K 0 2) (h256 : sets ≤ 256) (hk : kv_cl K) (hr0 : ce_rC g0 (a + 1) K O) : ∀ (n9 w : Nat) (g : ce_D), K 0 1 - w < n9 → w ≤ K 0 1 → kp_st g0 g a sets K (kp_fl K w) → ce_WP (ce_r 2) mX2_fewest 0 0 56 [some (.ref (a + 366)), some (.ref ((a + 1))), some (.int (nI (K 0 2))), some (.int (nI (sets))), some (.int (nI (w))), none] [] σ g (ce_rv σ (fun z9 g1 => z9 = nI (kp_few K) ∧ ∀ x, x ≠ a + 367 → x ≠ a + 368 → g1 x = g0 x)) ce_no := by
  intro n9
  induction n9 with
  | zero =>
    intros
    omega
  | succ n9 ih =>
    intro w g hm hw hA
    have hc : ce_rC g (a + 1) K O := hr0.kp (fun j hj => hA.2.2 _ (by omega) (by omega))
    have hW := hk.wi
    have hB := hk.i7
    refine ce_iload dX2_fewest_56 rfl ?_
    refine ce_aload_n dX2_fewest_58 rfl ?_
    refine ce_getIv dX2_fewest_59 fRX2_35 (hX.2.2.1).1 (hc).2.1 ?_
    refine ce_icmp_geN (tgt := 94) dX2_fewest_62 (by decide) rfl rfl (by omega) (by omega) (fun c_62 => ?_) (fun c_62 => ?_)
    · refine ce_iload_n dX2_fewest_94 rfl ?_
      refine ce_istore dX2_fewest_95 (Nat.le_of_ble_eq_true rfl) rfl ?_
      refine ce_iconst (v := nI (0)) dX2_fewest_97 (by decide) ?_
      refine ce_istore dX2_fewest_98 (Nat.le_of_ble_eq_true rfl) rfl ?_
      exact w3_X2_fewest a b hX sets K O hS h256 hk hr0 g (kp_fl K w) (by rw [show w = K 0 1 by omega]) hA (sets + 1) 0 (by omega) (by omega)
    · have hbo := hk.bo w (by omega)
      refine ce_aload_n dX2_fewest_65 rfl ?_
      refine ce_getR dX2_fewest_66 fRX2_38 (hX.2.2.1).1 (hX.2.2.1).2.2.1.2.2.1 ?_
      refine ce_iload dX2_fewest_69 rfl ?_
      refine ce_cVp dX2_fewest_71 hX5_ofWine kRX2_42 (n_X5_ofWine (hX.2.2.1).2.2.2.2.1.2.2.1 (w := w) (by omega) (fun m => K 9 (m * 6 + w)) (fun m hm => (hc).t 9 (by decide) (by omega)) (kv_sum K 9 (w)) rfl) rfl rfl ((hX.2.2.1).2.2.2.2.1.2.2.1).1 rfl (by decide) (Nat.le_of_ble_eq_true rfl) ?_
      refine ce_istore dX2_fewest_74 (Nat.le_of_ble_eq_true rfl) rfl ?_
      refine ce_iload dX2_fewest_76 rfl ?_
      refine ce_if_leN (tgt := 88) dX2_fewest_78 (by decide) rfl (by omega) (fun c_78 => ?_) (fun c_78 => ?_)
      · refine ce_iinc (v := nI (w + 1)) dX2_fewest_88 rfl (ce_inc1 _) (Nat.le_of_ble_eq_true rfl) rfl ?_
        refine ce_goto (tgt := 56) dX2_fewest_91 (by decide) ?_
        refine ce_drop (L' := [some (.ref (a + 366)), some (.ref ((a + 1))), some (.int (nI (K 0 2))), some (.int (nI (sets))), some (.int (nI (w + 1))), none]) (ce_le_s rfl (ce_le_s rfl (ce_le_s rfl (ce_le_s rfl (ce_le_s rfl (ce_le_n ce_le_e)))))) ?_
        have e9 : kp_fl K (w + 1) = kp_fl K w := if_pos (by omega)
        exact ih (w + 1) g (by omega) (by omega) (by rw [e9]; exact hA)
      · refine ce_aload_n dX2_fewest_81 rfl ?_
        refine ce_iload dX2_fewest_82 rfl ?_
        refine ce_iload_n dX2_fewest_84 rfl ?_
        refine ce_cVu dX2_fewest_85 hX2_packWine kRX2_48 (m_X2_packWine a b hX sets (kv_sum K 9 w) (fun s => kp_room K s (K 0 2)) (kp_fl K w) h256 (by omega) (fun j => by have := kp_room_le hk.rk j (K 0 2); show kp_room K j (K 0 2) ≤ 1000; omega) hA.1 hA.2.1) rfl rfl hX.2.2.2.2.2.2.1.1 rfl (by decide) (Nat.le_of_ble_eq_true rfl) (fun cg1 hcg1 => ?_)
        refine ce_iinc (v := nI (w + 1)) dX2_fewest_88 rfl (ce_inc1 _) (Nat.le_of_ble_eq_true rfl) rfl ?_
        refine ce_goto (tgt := 56) dX2_fewest_91 (by decide) ?_
        refine ce_drop (L' := [some (.ref (a + 366)), some (.ref ((a + 1))), some (.int (nI (K 0 2))), some (.int (nI (sets))), some (.int (nI (w + 1))), none]) (ce_le_s rfl (ce_le_s rfl (ce_le_s rfl (ce_le_s rfl (ce_le_s rfl (ce_le_n ce_le_e)))))) ?_
        have e9 : kp_fl K (w + 1) = kp_wine (fun s => kp_room K s (K 0 2)) (kp_fl K w) (kv_sum K 9 w) := if_neg (by omega)
        exact ih (w + 1) cg1 (by omega) (by omega) (by rw [e9]; exact ⟨fun j hj => by rw [hcg1.2 _ (by omega)]; exact hA.1 j hj, hcg1.1, fun x h1 h2 => (hcg1.2 x h2).trans (hA.2.2 x h1 h2)⟩)
set_option maxHeartbeats 2000000 in
set_option maxRecDepth 20000 in
theorem w1_X2_fewest {σ : ce_S} {g0 : ce_D} (a : Nat) (b : Nat → Nat) (hX : ce_LX σ a b) (sets : Nat) (K : ce_V) (O : Nat → Int32) (hS : sets = 2 ^ K 0 2) (h256 : sets ≤ 256) (hk : kv_cl K) (hr0 : ce_rC g0 (a + 1) K O) : ∀ (n9 i : Nat) (g : ce_D), sets - i < n9 → i ≤ sets → (∀ j, j < sets → g (a + 367) j = nI (kp_room K j (K 0 2))) → (∀ j, j < i → g (a + 368) j = if kp_fl K 0 j = true then 1 else 0) → (∀ x, x ≠ a + 367 → x ≠ a + 368 → g x = g0 x) → ce_WP (ce_r 2) mX2_fewest 0 0 24 [some (.ref (a + 366)), some (.ref ((a + 1))), some (.int (nI (K 0 2))), some (.int (nI (sets))), some (.int (nI (i))), none] [] σ g (ce_rv σ (fun z9 g1 => z9 = nI (kp_few K) ∧ ∀ x, x ≠ a + 367 → x ≠ a + 368 → g1 x = g0 x)) ce_no := by
  intro n9
  induction n9 with
  | zero =>
    intros
    omega
  | succ n9 ih =>
    intro i g hm hi hR hd hq
    refine ce_iload dX2_fewest_24 rfl ?_
    refine ce_iload_n dX2_fewest_26 rfl ?_
    refine ce_icmp_geN (tgt := 53) dX2_fewest_27 (by decide) rfl rfl (by omega) (by omega) (fun c_27 => ?_) (fun c_27 => ?_)
    · refine ce_iconst (v := nI (0)) dX2_fewest_53 (by decide) ?_
      refine ce_istore dX2_fewest_54 (Nat.le_of_ble_eq_true rfl) rfl ?_
      exact w2_X2_fewest a b hX sets K O hS h256 hk hr0 (K 0 1 + 1) 0 g (by omega) (by omega) ⟨hR, fun j hj => hd j (by omega), hq⟩
    · refine ce_aload_n dX2_fewest_30 rfl ?_
      refine ce_getR dX2_fewest_31 fRX2_15 hX.2.2.2.2.2.2.1.1 hX.2.2.2.2.2.2.1.2.1.2 ?_
      refine ce_iload dX2_fewest_34 rfl ?_
      refine ce_iload dX2_fewest_36 rfl ?_
      refine ce_if_neN (tgt := 45) dX2_fewest_38 (by decide) rfl (by omega) (fun c_38 => ?_) (fun c_38 => ?_)
      · refine ce_iconst (v := nI (0)) dX2_fewest_45 (by decide) ?_
        refine ce_zast dX2_fewest_46 (hX.2.2.2.2.2.2.1.2.2.2).1 rfl (hX.2.2.2.2.2.2.1.2.2.2).2 (by omega) (by decide) rfl ?_
        generalize hcg1 : ce_up g (a + 368) (i) (nI (0)) = cg1
        refine ce_iinc (v := nI (i + 1)) dX2_fewest_47 rfl (ce_inc1 _) (Nat.le_of_ble_eq_true rfl) rfl ?_
        refine ce_goto (tgt := 24) dX2_fewest_50 (by decide) ?_
        refine ih (i + 1) cg1 (by omega) (by omega) (fun j hj => by rw [← hcg1, ce_up_ne _ _ _ (by omega)]; exact hR j hj) (fun j hj => ?_) (fun x h1 h2 => by rw [← hcg1, ce_up_ne _ _ _ h2]; exact hq x h1 h2)
        rw [← hcg1, ce_up_eq]
        unfold upd
        by_cases e : j = i
        · rw [if_pos e]; rw [if_neg (show ¬ kp_fl K 0 j = true from fun q => by have q2 := of_decide_eq_true q; omega)]; rfl
        · rw [if_neg e]; exact hd j (by omega)
      · refine ce_iconst (v := nI (1)) dX2_fewest_41 (by decide) ?_
        refine ce_goto (tgt := 46) dX2_fewest_42 (by decide) ?_
        refine ce_zast dX2_fewest_46 (hX.2.2.2.2.2.2.1.2.2.2).1 rfl (hX.2.2.2.2.2.2.1.2.2.2).2 (by omega) (by decide) rfl ?_
        generalize hcg1 : ce_up g (a + 368) (i) (nI (1)) = cg1
        refine ce_iinc (v := nI (i + 1)) dX2_fewest_47 rfl (ce_inc1 _) (Nat.le_of_ble_eq_true rfl) rfl ?_
        refine ce_goto (tgt := 24) dX2_fewest_50 (by decide) ?_
        refine ih (i + 1) cg1 (by omega) (by omega) (fun j hj => by rw [← hcg1, ce_up_ne _ _ _ (by omega)]; exact hR j hj) (fun j hj => ?_) (fun x h1 h2 => by rw [← hcg1, ce_up_ne _ _ _ h2]; exact hq x h1 h2)
        rw [← hcg1, ce_up_eq]
        unfold upd
        by_cases e : j = i
        · rw [if_pos e]; rw [if_pos (show kp_fl K 0 j = true from decide_eq_true (by omega))]; rfl
        · rw [if_neg e]; exact hd j (by omega)
set_option maxHeartbeats 2000000 in
set_option maxRecDepth 20000 in
theorem m_X2_fewest {σ : ce_S} {g0 : ce_D} (a : Nat) (b : Nat → Nat) (hX : ce_LX σ a b) (K : ce_V) (O : Nat → Int32) (hk : kv_cl K) (hr0 : ce_rC g0 (a + 1) K O) : ce_CT (ce_r 2) mX2_fewest [.ref (a + 366), .ref ((a + 1))] σ g0 (ce_rv σ (fun z9 g1 => z9 = nI (kp_few K) ∧ ∀ x, x ≠ a + 367 → x ≠ a + 368 → g1 x = g0 x)) ce_no := by
  have hc := hr0
  have hB := hk.i7
  obtain ⟨sets, hS⟩ : ∃ n, n = 2 ^ K 0 2 := ⟨_, rfl⟩
  have h256 : sets ≤ 2 ^ 8 := hS ▸ Nat.pow_le_pow_right (by decide) hB
  have h256 : sets ≤ 256 := h256
  refine ce_enter (by decide) rfl (Nat.le_of_ble_eq_true rfl) (L := [some (.ref (a + 366)), some (.ref ((a + 1))), none, none, none, none]) rfl ?_
  refine ce_aload_n dX2_fewest_0 rfl ?_
  refine ce_getR dX2_fewest_1 fRX2_19 (hX.2.2.1).1 (hX.2.2.1).2.2.1.2.2.2.2 ?_
  refine ce_getIv dX2_fewest_4 fRX2_25 ((hX.2.2.1).2.2.2.2.2).1 ((hc).k.1) ?_
  refine ce_istore_n dX2_fewest_7 (Nat.le_of_ble_eq_true rfl) rfl ?_
  refine ce_iconst (v := nI (1)) dX2_fewest_8 (by decide) ?_
  refine ce_iload_n dX2_fewest_9 rfl ?_
  refine ce_ishl (z := nI (sets)) dX2_fewest_10 (hS ▸ kp_shl (by omega)) ?_
  refine ce_istore_n dX2_fewest_11 (Nat.le_of_ble_eq_true rfl) rfl ?_
  refine ce_aload_n dX2_fewest_12 rfl ?_
  refine ce_aload_n dX2_fewest_13 rfl ?_
  refine ce_getR dX2_fewest_14 fRX2_19 (hX.2.2.1).1 (hX.2.2.1).2.2.1.2.2.2.2 ?_
  refine ce_iload_n dX2_fewest_17 rfl ?_
  refine ce_cVu dX2_fewest_18 hX2_measure kRX2_31 (m_X2_measure a b hX sets K O h256 hk.rk hr0) rfl rfl hX.2.2.2.2.2.2.1.1 rfl (by decide) (Nat.le_of_ble_eq_true rfl) (fun cg1 hcg1 => ?_)
  refine ce_iconst (v := nI (0)) dX2_fewest_21 (by decide) ?_
  refine ce_istore dX2_fewest_22 (Nat.le_of_ble_eq_true rfl) rfl ?_
  exact w1_X2_fewest a b hX sets K O hS h256 hk hr0 (sets + 1) 0 cg1 (by omega) (by omega) hcg1.1 (fun j hj => by omega) (fun x h1 h2 => hcg1.2 x h1)
set_option maxHeartbeats 2000000 in
set_option maxRecDepth 20000 in
theorem m_X7_fewestBins_ok {σ : ce_S} {g : ce_D} (a : Nat) (b : Nat → Nat) (S : ks_S) (hX : ce_LX σ a b) (hr : ce_rX g a b S) (ok : ks_ok S) : ce_CT (ce_r 5) mX7_fewestBins [.ref (a)] σ g (ce_rv σ (fun z9 g1 => z9 = nI (kp_few (sK S)) ∧ ce_rX g1 a b S ∧ ce_fr a (a + 411) g g1)) ce_no := by
  refine ce_enter (by decide) rfl (Nat.le_of_ble_eq_true rfl) (L := [some (.ref (a))]) rfl ?_
  refine ce_aload_n dX7_fewestBins_0 rfl ?_
  refine ce_getR dX7_fewestBins_1 fRX7_40 hX.1 hX.2.1.2.2.2.2.1 ?_
  refine ce_aload_n dX7_fewestBins_4 rfl ?_
  refine ce_getR dX7_fewestBins_5 fRX7_10 hX.1 hX.2.1.1 ?_
  refine ce_cVr dX7_fewestBins_8 hX2_fewest kRX7_225 (m_X2_fewest a b hX (sK S) (sO S) ok.1 hr.1) rfl rfl hX.2.2.2.2.2.2.1.1 rfl (by decide) (Nat.le_of_ble_eq_true rfl) (fun rcg1 cg1 hcg1 => ?_)
  refine ce_iret dX7_fewestBins_11 rfl rfl (by decide) (by decide) ?_
  exact ⟨_, rfl, rfl, hcg1.1, rX_pack hr hX.2.2.2.1.2.2.2 hcg1.2, fun x hx => hcg1.2 x (by omega) (by omega)⟩
