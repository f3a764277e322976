set_option maxHeartbeats 2000000 in
set_option maxRecDepth 20000 in
theorem w_X2_canPack {σ : ce_S} {g : ce_D} (a : Nat) (b : Nat → Nat) (hX : ce_LX σ a b) (sets n s : Nat) (R : Nat → Nat) (FL : Nat → Bool) (hs : s < sets) (h256 : sets ≤ 256) (hn : n ≤ 1000) (hRl : ∀ j, R j ≤ 1000) (hR : ∀ j, j < sets → g (a + 367) j = nI (R j)) (hF : ∀ j, j < sets → g (a + 368) j = if FL j = true then 1 else 0) : ∀ (n9 t p : Nat), p < n9 → p ≤ s → p &&& s = p → (p < t ∧ t ≤ 256) → ce_WP (ce_r 0) mX2_canPack 0 0 5 [some (.ref (a + 366)), some (.int (nI (n))), some (.int (nI (s))), some (.int (nI (p))), some (.int (nI (256 - t)))] [] σ g (ce_pv (if kp_can R FL n s (t) (p) = true then 1 else 0) σ g) ce_no := by
  intro n9
  induction n9 with
  | zero =>
    intros
    omega
  | succ n9 ih =>
    intro t p hm hp hps ht
    have hRp := hRl p
    refine ce_iload dX2_canPack_5 rfl ?_
    refine ce_aload_n dX2_canPack_7 rfl ?_
    refine ce_getR dX2_canPack_8 fRX2_15 hX.2.2.2.2.2.2.1.1 hX.2.2.2.2.2.2.1.2.1.2 ?_
    refine ce_alen dX2_canPack_11 (Or.inr (hX.2.2.2.2.2.2.1.2.2.2).1) (hX.2.2.2.2.2.2.1.2.2.2).2 ?_
    refine ce_icmp_geN (tgt := 54) dX2_canPack_12 (by decide) rfl rfl (by omega) (by omega) (fun c_12 => ?_) (fun c_12 => ?_)
    · refine ce_iconst (v := nI (0)) dX2_canPack_54 (by decide) ?_
      refine ce_iret dX2_canPack_55 rfl (by first | rfl | decide) (by decide) (by decide) ?_
      rw [show p = 0 by omega, kp_can_0]
      exact ⟨rfl, rfl, rfl⟩
    · refine ce_iload_n dX2_canPack_15 rfl ?_
      refine ce_if_leN (tgt := 54) dX2_canPack_16 (by decide) rfl (by omega) (fun c_16 => ?_) (fun c_16 => ?_)
      · refine ce_iconst (v := nI (0)) dX2_canPack_54 (by decide) ?_
        refine ce_iret dX2_canPack_55 rfl (by first | rfl | decide) (by decide) (by decide) ?_
        rw [show p = 0 by omega, kp_can_0]
        exact ⟨rfl, rfl, rfl⟩
      · refine ce_aload_n dX2_canPack_19 rfl ?_
        refine ce_getR dX2_canPack_20 fRX2_9 hX.2.2.2.2.2.2.1.1 hX.2.2.2.2.2.2.1.2.1.1 ?_
        refine ce_iload_n dX2_canPack_23 rfl ?_
        refine ce_ialdv dX2_canPack_24 (hX.2.2.2.2.2.2.1.2.2.1).1 rfl (hX.2.2.2.2.2.2.1.2.2.1).2 (by omega) (by decide) (hR _ (by omega)) ?_
        refine ce_iload_n dX2_canPack_25 rfl ?_
        refine ce_icmp_ltN (tgt := 42) dX2_canPack_26 (by decide) rfl rfl (by omega) (by omega) (fun c_26 => ?_) (fun c_26 => ?_)
        · refine ce_iload_n dX2_canPack_42 rfl ?_
          refine ce_iconst (v := nI (1)) dX2_canPack_43 (by decide) ?_
          refine ce_isub (z := nI (p - (1))) dX2_canPack_44 (pk_sub (by omega)) ?_
          refine ce_iload_n dX2_canPack_45 rfl ?_
          refine ce_iand (z := nI ((p - 1) &&& s)) dX2_canPack_46 (kp_and _ _) ?_
          refine ce_istore_n dX2_canPack_47 (Nat.le_of_ble_eq_true rfl) rfl ?_
          refine ce_iinc (v := nI (256 - (t - 1))) dX2_canPack_48 rfl (by rw [ce_inc1]; exact congrArg nI (by omega)) (Nat.le_of_ble_eq_true rfl) rfl ?_
          refine ce_goto (tgt := 5) dX2_canPack_51 (by decide) ?_
          rw [kp_can_n (t := t) (by omega) (by omega) (fun e => by omega)]
          have l1 : (p - 1) &&& s ≤ p - 1 := Nat.and_le_left
          have l2 : (p - 1) &&& s ≤ s := Nat.and_le_right
          exact ih (t - 1) ((p - 1) &&& s) (by omega) (by omega) (kp_sub p s) (by omega)
        · have hx := kp_xs 8 s p (by omega) hps
          refine ce_aload_n dX2_canPack_29 rfl ?_
          refine ce_getR dX2_canPack_30 fRX2_15 hX.2.2.2.2.2.2.1.1 hX.2.2.2.2.2.2.1.2.1.2 ?_
          refine ce_iload_n dX2_canPack_33 rfl ?_
          refine ce_iload_n dX2_canPack_34 rfl ?_
          refine ce_ixor (z := nI (s ^^^ p)) dX2_canPack_35 (kp_xor _ _) ?_
          refine ce_zaldv dX2_canPack_36 (hX.2.2.2.2.2.2.1.2.2.2).1 rfl (hX.2.2.2.2.2.2.1.2.2.2).2 (by omega) (by decide) (hF _ (by omega)) ?_
          refine ce_if_eqB (tgt := 42) dX2_canPack_37 (by decide) rfl (fun c_37 => ?_) (fun c_37 => ?_)
          · refine ce_iload_n dX2_canPack_42 rfl ?_
            refine ce_iconst (v := nI (1)) dX2_canPack_43 (by decide) ?_
            refine ce_isub (z := nI (p - (1))) dX2_canPack_44 (pk_sub (by omega)) ?_
            refine ce_iload_n dX2_canPack_45 rfl ?_
            refine ce_iand (z := nI ((p - 1) &&& s)) dX2_canPack_46 (kp_and _ _) ?_
            refine ce_istore_n dX2_canPack_47 (Nat.le_of_ble_eq_true rfl) rfl ?_
            refine ce_iinc (v := nI (256 - (t - 1))) dX2_canPack_48 rfl (by rw [ce_inc1]; exact congrArg nI (by omega)) (Nat.le_of_ble_eq_true rfl) rfl ?_
            refine ce_goto (tgt := 5) dX2_canPack_51 (by decide) ?_
            rw [kp_can_n (t := t) (by omega) (by omega) (fun e => c_37 e.2)]
            have l1 : (p - 1) &&& s ≤ p - 1 := Nat.and_le_left
            have l2 : (p - 1) &&& s ≤ s := Nat.and_le_right
            exact ih (t - 1) ((p - 1) &&& s) (by omega) (by omega) (kp_sub p s) (by omega)
          · refine ce_iconst (v := nI (1)) dX2_canPack_40 (by decide) ?_
            refine ce_iret dX2_canPack_41 rfl (by first | rfl | decide) (by decide) (by decide) ?_
            rw [kp_can_y (t := t) (by omega) (by omega) ⟨by omega, c_37⟩]
            exact ⟨rfl, rfl, rfl⟩
set_option maxHeartbeats 2000000 in
set_option maxRecDepth 20000 in
theorem m_X2_canPack {σ : ce_S} {g : ce_D} (a : Nat) (b : Nat → Nat) (hX : ce_LX σ a b) (sets n s : Nat) (R : Nat → Nat) (FL : Nat → Bool) (hs : s < sets) (h256 : sets ≤ 256) (hn : n ≤ 1000) (hRl : ∀ j, R j ≤ 1000) (hR : ∀ j, j < sets → g (a + 367) j = nI (R j)) (hF : ∀ j, j < sets → g (a + 368) j = if FL j = true then 1 else 0) : ce_CT (ce_r 0) mX2_canPack [.ref (a + 366), .int (nI (n)), .int (nI (s))] σ g (ce_pv (if kp_can R FL n s (256) (s) = true then 1 else 0) σ g) ce_no := by
  refine ce_enter (by decide) rfl (Nat.le_of_ble_eq_true rfl) (L := [some (.ref (a + 366)), some (.int (nI (n))), some (.int (nI (s))), none, none]) rfl ?_
  refine ce_iload_n dX2_canPack_0 rfl ?_
  refine ce_istore_n dX2_canPack_1 (Nat.le_of_ble_eq_true rfl) rfl ?_
  refine ce_iconst (v := nI (0)) dX2_canPack_2 (by decide) ?_
  refine ce_istore dX2_canPack_3 (Nat.le_of_ble_eq_true rfl) rfl ?_
  exact w_X2_canPack a b hX sets n s R FL hs h256 hn hRl hR hF 257 256 s (by omega) (by omega) (Nat.and_self s) (by omega)
/-- the sets from i on are told anew -/
def kp_mix (i : Nat) (F1 F2 : Nat → Bool) : Nat → Bool := fun j => if i ≤ j then F1 j else F2 j
theorem kp_mix_n {i j : Nat} {F1 F2 : Nat → Bool} (h : i ≤ j) : kp_mix i F1 F2 j = F1 j := if_pos h
theorem kp_mix_o {i j : Nat} {F1 F2 : Nat → Bool} (h : j < i) : kp_mix i F1 F2 j = F2 j := if_neg (by omega)
theorem kp_mix_can {R : Nat → Nat} {FL F1 : Nat → Bool} {n i : Nat} (hi : i < 256) : kp_can R (kp_mix (i + 1) F1 FL) n i 256 i = kp_wine R FL n i := kp_can_cong (k := 8) hi (fun j hj => kp_mix_o (by omega)) (Nat.and_self i)
set_option maxHeartbeats 2000000 in
set_option maxRecDepth 20000 in
theorem w_X2_packWine {σ : ce_S} {g0 : ce_D} (a : Nat) (b : Nat → Nat) (hX : ce_LX σ a b) (sets n : Nat) (R : Nat → Nat) (FL : Nat → Bool) (h256 : sets ≤ 256) (hn : n ≤ 1000) (hRl : ∀ j, R j ≤ 1000) (hR : ∀ j, j < sets → g0 (a + 367) j = nI (R j)) : ∀ (i : Nat) (g : ce_D), i ≤ sets → (∀ j, j < sets → g (a + 368) j = if kp_mix i (kp_wine R FL n) FL j = true then 1 else 0) → (∀ x, x ≠ a + 368 → g x = g0 x) → ce_WP (ce_r 1) mX2_packWine 0 0 4 [some (.ref (a + 366)), some (.int (nI (n))), some (.int (nI (sets))), some (.int (nI i - 1))] [] σ g (ce_uv σ (fun g1 => (∀ j, j < sets → g1 (a + 368) j = if kp_wine R FL n j = true then 1 else 0) ∧ ∀ x, x ≠ a + 368 → g1 x = g0 x)) ce_no := by
  intro i
  induction i with
  | zero =>
    intro g hi hF hq
    show ce_WP (ce_r 1) mX2_packWine 0 0 4 [some (.ref (a + 366)), some (.int (nI (n))), some (.int (nI (sets))), some (.int ((-1)))] [] σ g _ ce_no
    refine ce_iload_n dX2_packWine_4 rfl ?_
    refine ce_if_ltI (tgt := 26) dX2_packWine_5 (by decide) (p := (-1)) (by decide) (fun c_5 => ?_) (fun c_5 => ?_)
    · exact ce_vret dX2_packWine_26 rfl (by decide) (by decide) ⟨rfl, rfl, fun j hj => by rw [hF j hj, kp_mix_n (Nat.zero_le j)], hq⟩
    · omega
  | succ i ih =>
    intro g hi hF hq
    rw [show nI (i + 1) - 1 = nI i from pk_sub (b := 1) (by omega)]
    refine ce_iload_n dX2_packWine_4 rfl ?_
    refine ce_if_ltN (tgt := 26) dX2_packWine_5 (by decide) rfl (by omega) (fun c_5 => ?_) (fun c_5 => ?_)
    · omega
    · refine ce_aload_n dX2_packWine_8 rfl ?_
      refine ce_getR dX2_packWine_9 fRX2_15 hX.2.2.2.2.2.2.1.1 hX.2.2.2.2.2.2.1.2.1.2 ?_
      refine ce_iload_n dX2_packWine_12 rfl ?_
      refine ce_aload_n dX2_packWine_13 rfl ?_
      refine ce_iload_n dX2_packWine_14 rfl ?_
      refine ce_iload_n dX2_packWine_15 rfl ?_
      refine ce_cVp dX2_packWine_16 hX2_canPack kRX2_66 (m_X2_canPack a b hX sets n i R (kp_mix (i + 1) (kp_wine R FL n) FL) (by omega) h256 hn hRl (fun j hj => by rw [hq _ (by omega)]; exact hR j hj) hF) rfl rfl hX.2.2.2.2.2.2.1.1 rfl (by decide) (Nat.le_of_ble_eq_true rfl) ?_
      refine ce_zast dX2_packWine_19 (hX.2.2.2.2.2.2.1.2.2.2).1 rfl (hX.2.2.2.2.2.2.1.2.2.2).2 (by omega) (by decide) (by split <;> rfl) ?_
      generalize hcg1 : ce_up g (a + 368) (i) ((if kp_can R (kp_mix (i + 1) (kp_wine R FL n) FL) n i 256 i = true then 1 else 0)) = cg1
      refine ce_iinc (v := nI i - 1) dX2_packWine_20 rfl (by rw [Int32.sub_eq_add_neg, show Int32.ofInt (-1) = -1 from by decide]) (Nat.le_of_ble_eq_true rfl) rfl ?_
      refine ce_goto (tgt := 4) dX2_packWine_23 (by decide) ?_
      rw [kp_mix_can (by omega)] at hcg1
      refine ih cg1 (by omega) (fun j hj => ?_) (fun x hx => ?_)
      · rw [← hcg1, ce_up_eq]
        unfold upd
        by_cases e : j = i
        · rw [if_pos e, e, kp_mix_n (Nat.le_refl i)]
        · rw [if_neg e, hF j hj]
          by_cases e2 : i ≤ j
          · rw [kp_mix_n (by omega), kp_mix_n e2]
          · rw [kp_mix_o (by omega), kp_mix_o (by omega)]
      · rw [← hcg1, ce_up_ne _ _ _ hx]; exact hq x hx
set_option maxHeartbeats 2000000 in
set_option maxRecDepth 20000 in
theorem m_X2_packWine {σ : ce_S} {g0 : ce_D} (a : Nat) (b : Nat → Nat) (hX : ce_LX σ a b) (sets n : Nat) (R : Nat → Nat) (FL : Nat → Bool) (h256 : sets ≤ 256) (hn : n ≤ 1000) (hRl : ∀ j, R j ≤ 1000) (hR : ∀ j, j < sets → g0 (a + 367) j = nI (R j)) (hF : ∀ j, j < sets → g0 (a + 368) j = if FL j = true then 1 else 0) : ce_CT (ce_r 1) mX2_packWine [.ref (a + 366), .int (nI (n)), .int (nI (sets))] σ g0 (ce_uv σ (fun g1 => (∀ j, j < sets → g1 (a + 368) j = if kp_wine R FL n j = true then 1 else 0) ∧ ∀ x, x ≠ a + 368 → g1 x = g0 x)) ce_no := by
  refine ce_enter (by decide) rfl (Nat.le_of_ble_eq_true rfl) (L := [some (.ref (a + 366)), some (.int (nI (n))), some (.int (nI (sets))), none]) rfl ?_
  refine ce_iload_n dX2_packWine_0 rfl ?_
  refine ce_iconst (v := nI (1)) dX2_packWine_1 (by decide) ?_
  refine ce_isub (z := nI sets - 1) dX2_packWine_2 rfl ?_
  refine ce_istore_n dX2_packWine_3 (Nat.le_of_ble_eq_true rfl) rfl ?_
  exact w_X2_packWine a b hX sets n R FL h256 hn hRl hR sets g0 (Nat.le_refl _) (fun j hj => by rw [kp_mix_o hj]; exact hF j hj) (fun _ _ => rfl)
set_option maxHeartbeats 2000000 in
set_option maxRecDepth 20000 in
theorem w1_X2_measure {σ : ce_S} {g0 : ce_D} (a : Nat) (b : Nat → Nat) (hX : ce_LX σ a b) (sets : Nat) (K : ce_V) (O : Nat → Int32) (h256 : sets ≤ 256) (hk : kv_rk K) (hr0 : ce_rC g0 (a + 1) K O) (i : Nat) (hi : i < sets) (kk : ∀ g, (∀ x, x ≠ a + 367 → g x = g0 x) → (∀ j, j < i + 1 → g (a + 367) j = nI (kp_room K j (K 0 2))) → ce_WP (ce_r 0) mX2_measure 0 0 58 [some (.ref (a + 366)), some (.ref ((a + 1) + 16)), some (.int (nI (sets))), some (.int (nI (i))), none] [] σ g (ce_uv σ (fun g1 => (∀ j, j < sets → g1 (a + 367) j = nI (kp_room K j (K 0 2))) ∧ ∀ x, x ≠ a + 367 → g1 x = g0 x)) ce_no) : ∀ (n9 k : Nat) (g : ce_D), K 0 2 - k < n9 → k ≤ K 0 2 → (∀ x, x ≠ a + 367 → g x = g0 x) → (∀ j, j < i → g (a + 367) j = nI (kp_room K j (K 0 2))) → g (a + 367) i = nI (kp_room K i k) → ce_WP (ce_r 0) mX2_measure 0 0 17 [some (.ref (a + 366)), some (.ref ((a + 1) + 16)), some (.int (nI (sets))), some (.int (nI (i))), some (.int (nI (k)))] [] σ g (ce_uv σ (fun g1 => (∀ j, j < sets → g1 (a + 367) j = nI (kp_room K j (K 0 2))) ∧ ∀ x, x ≠ a + 367 → g1 x = g0 x)) ce_no := by
  intro n9
  induction n9 with
  | zero =>
    intros
    omega
  | succ n9 ih =>
    intro k g hm hk8 hq hd hz
    have hc : ce_rC g (a + 1) K O := hr0.kp (fun j hj => hq _ (by omega))
    have hB := hk.1
    refine ce_iload dX2_measure_17 rfl ?_
    refine ce_aload_n dX2_measure_19 rfl ?_
    refine ce_getIv dX2_measure_20 fRX2_25 (hX.2.2.1.2.2.2.2.2).1 (hc).k.1 ?_
    refine ce_icmp_geN (tgt := 58) dX2_measure_23 (by decide) rfl rfl (by omega) (by omega) (fun c_23 => ?_) (fun c_23 => ?_)
    · refine ce_drop (L' := [some (.ref (a + 366)), some (.ref ((a + 1) + 16)), some (.int (nI (sets))), some (.int (nI (i))), none]) (ce_le_s rfl (ce_le_s rfl (ce_le_s rfl (ce_le_s rfl (ce_le_n ce_le_e))))) ?_
      exact kk g hq (fun j hj => (Nat.lt_or_ge j i).elim (hd j) (fun e => by rw [show j = i by omega, hz, show k = K 0 2 by omega]))
    · refine ce_iload_n dX2_measure_26 rfl ?_
      refine ce_iload dX2_measure_27 rfl ?_
      refine ce_ishr (z := nI (i / 2 ^ k)) dX2_measure_29 (kp_shr (by omega) (by omega)) ?_
      refine ce_iconst (v := nI (1)) dX2_measure_30 (by decide) ?_
      refine ce_iand (z := nI (i / 2 ^ k % 2)) dX2_measure_31 (kp_bit _) ?_
      refine ce_iconst (v := nI (1)) dX2_measure_32 (by decide) ?_
      refine ce_icmp_neN (tgt := 52) dX2_measure_33 (by decide) rfl rfl (Nat.lt_trans (Nat.mod_lt _ (by decide)) (by decide)) (by decide) (fun c_33 => ?_) (fun c_33 => ?_)
      · refine ce_iinc (v := nI (k + 1)) dX2_measure_52 rfl (ce_inc1 _) (Nat.le_of_ble_eq_true rfl) rfl ?_
        refine ce_goto (tgt := 17) dX2_measure_55 (by decide) ?_
        refine ih (k + 1) g (by omega) (by omega) hq hd ?_
        rw [hz]; exact congrArg nI (show _ = kp_room K i (k + 1) by unfold kp_room; rw [ce_sum, if_neg (by omega)]; rfl)
      · refine ce_aload_n dX2_measure_36 rfl ?_
        refine ce_getR dX2_measure_37 fRX2_9 hX.2.2.2.2.2.2.1.1 hX.2.2.2.2.2.2.1.2.1.1 ?_
        refine ce_iload_n dX2_measure_40 rfl ?_
        refine ce_dup2 dX2_measure_41 rfl rfl ?_
        refine ce_ialdv dX2_measure_42 (hX.2.2.2.2.2.2.1.2.2.1).1 rfl (hX.2.2.2.2.2.2.1.2.2.1).2 (by omega) (by decide) hz ?_
        refine ce_aload_n dX2_measure_43 rfl ?_
        refine ce_getR dX2_measure_44 fRX2_63 (hX.2.2.1.2.2.2.2.2).1 (hX.2.2.1.2.2.2.2.2).2.1.1 ?_
        refine ce_iload dX2_measure_47 rfl ?_
        refine ce_ialdv dX2_measure_49 ((hX.2.2.1.2.2.2.2.2).2.2.1).1 rfl ((hX.2.2.1.2.2.2.2.2).2.2.1).2 (by omega) (by decide) ((hc).k.2.1 _ (by omega)) ?_
        refine ce_iadd (z := nI (kp_room K i k + (K 11 (k)))) dX2_measure_50 (nI_add _ _) ?_
        refine ce_iast dX2_measure_51 (hX.2.2.2.2.2.2.1.2.2.1).1 rfl (hX.2.2.2.2.2.2.1.2.2.1).2 (by omega) (by decide) ?_
        generalize hcg1 : ce_up g (a + 367) (i) (nI (kp_room K i k + (K 11 (k)))) = cg1
        refine ce_iinc (v := nI (k + 1)) dX2_measure_52 rfl (ce_inc1 _) (Nat.le_of_ble_eq_true rfl) rfl ?_
        refine ce_goto (tgt := 17) dX2_measure_55 (by decide) ?_
        refine ih (k + 1) cg1 (by omega) (by omega) (fun x hx => by rw [← hcg1, ce_up_ne _ _ _ hx]; exact hq x hx) (fun j hj => ?_) ?_
        · rw [← hcg1, ce_up_j (by omega)]; exact hd j hj
        · rw [← hcg1, ce_up_at]; exact congrArg nI (show _ = kp_room K i (k + 1) by unfold kp_room; rw [ce_sum, if_pos (by omega)])
set_option maxHeartbeats 2000000 in
set_option maxRecDepth 20000 in
theorem w_X2_measure {σ : ce_S} {g0 : ce_D} (a : Nat) (b : Nat → Nat) (hX : ce_LX σ a b) (sets : Nat) (K : ce_V) (O : Nat → Int32) (h256 : sets ≤ 256) (hk : kv_rk K) (hr0 : ce_rC g0 (a + 1) K O) : ∀ (n9 i : Nat) (g : ce_D), sets - i < n9 → i ≤ sets → (∀ x, x ≠ a + 367 → g x = g0 x) → (∀ j, j < i → g (a + 367) j = nI (kp_room K j (K 0 2))) → ce_WP (ce_r 0) mX2_measure 0 0 2 [some (.ref (a + 366)), some (.ref ((a + 1) + 16)), some (.int (nI (sets))), some (.int (nI (i))), none] [] σ g (ce_uv σ (fun g1 => (∀ j, j < sets → g1 (a + 367) j = nI (kp_room K j (K 0 2))) ∧ ∀ x, x ≠ a + 367 → g1 x = g0 x)) ce_no := by
  intro n9
  induction n9 with
  | zero =>
    intros
    omega
  | succ n9 ih =>
    intro i g hm hi hq hd
    refine ce_iload_n dX2_measure_2 rfl ?_
    refine ce_iload_n dX2_measure_3 rfl ?_
    refine ce_icmp_geN (tgt := 64) dX2_measure_4 (by decide) rfl rfl (by omega) (by omega) (fun c_4 => ?_) (fun c_4 => ?_)
    · exact ce_vret dX2_measure_64 rfl (by decide) (by decide) ⟨rfl, rfl, fun j hj => hd j (by omega), hq⟩
    · refine ce_aload_n dX2_measure_7 rfl ?_
      refine ce_getR dX2_measure_8 fRX2_9 hX.2.2.2.2.2.2.1.1 hX.2.2.2.2.2.2.1.2.1.1 ?_
      refine ce_iload_n dX2_measure_11 rfl ?_
      refine ce_iconst (v := nI (0)) dX2_measure_12 (by decide) ?_
      refine ce_iast dX2_measure_13 (hX.2.2.2.2.2.2.1.2.2.1).1 rfl (hX.2.2.2.2.2.2.1.2.2.1).2 (by omega) (by decide) ?_
      generalize hcg1 : ce_up g (a + 367) (i) (nI (0)) = cg1
      refine ce_iconst (v := nI (0)) dX2_measure_14 (by decide) ?_
      refine ce_istore dX2_measure_15 (Nat.le_of_ble_eq_true rfl) rfl ?_
      refine w1_X2_measure a b hX sets K O h256 hk hr0 i (by omega) (fun g1 hq1 hd1 => ?_) (K 0 2 + 1) 0 cg1 (by omega) (by omega) (fun x hx => by rw [← hcg1, ce_up_ne _ _ _ hx]; exact hq x hx) (fun j hj => by rw [← hcg1, ce_up_j (by omega)]; exact hd j hj) (by rw [← hcg1]; exact ce_up_at _ _ _ _)
      refine ce_iinc (v := nI (i + 1)) dX2_measure_58 rfl (ce_inc1 _) (Nat.le_of_ble_eq_true rfl) rfl ?_
      refine ce_goto (tgt := 2) dX2_measure_61 (by decide) ?_
      exact ih (i + 1) g1 (by omega) (by omega) hq1 hd1
set_option maxHeartbeats 2000000 in
set_option maxRecDepth 20000 in
theorem m_X2_measure {σ : ce_S} {g0 : ce_D} (a : Nat) (b : Nat → Nat) (hX : ce_LX σ a b) (sets : Nat) (K : ce_V) (O : Nat → Int32) (h256 : sets ≤ 256) (hk : kv_rk K) (hr0 : ce_rC g0 (a + 1) K O) : ce_CT (ce_r 0) mX2_measure [.ref (a + 366), .ref ((a + 1) + 16), .int (nI (sets))] σ g0 (ce_uv σ (fun g1 => (∀ j, j < sets → g1 (a + 367) j = nI (kp_room K j (K 0 2))) ∧ ∀ x, x ≠ a + 367 → g1 x = g0 x)) ce_no := by
  refine ce_enter (by decide) rfl (Nat.le_of_ble_eq_true rfl) (L := [some (.ref (a + 366)), some (.ref ((a + 1) + 16)), some (.int (nI (sets))), none, none]) rfl ?_
  refine ce_iconst (v := nI (0)) dX2_measure_0 (by decide) ?_
  refine ce_istore_n dX2_measure_1 (Nat.le_of_ble_eq_true rfl) rfl ?_
  exact w_X2_measure a b hX sets K O h256 hk hr0 (sets + 1) 0 g0 (by omega) (by omega) (fun _ _ => rfl) (fun j hj => by omega)
