set_option maxHeartbeats 2000000 in
set_option maxRecDepth 20000 in
theorem w_X8_sizes {σ : ce_S} {g : ce_D} (r : Nat) (F : ce_V) (O : Nat → Int32) (hA : ce_LA σ 10 r 189) (hr : cr_row (g r) F O) (s : Nat) (hs : s < 256) (h8 : F 0 2 ≤ 8) : ∀ (n9 i : Nat), F 0 2 - i < n9 → i ≤ F 0 2 → ce_WP (ce_r 1) mX8_sizes 0 0 4 [some (.ref (r)), some (.int (nI (s))), some (.int (nI (kp_room F s i))), some (.int (nI (i)))] [] σ g (ce_pv (nI (kp_room F s (F 0 2))) σ g) ce_no := by
  intro n9
  induction n9 with
  | zero =>
    intros
    omega
  | succ n9 ih =>
    intro i hm hi
    refine ce_iload_n dX8_sizes_4 rfl ?_
    refine ce_aload_n dX8_sizes_5 rfl ?_
    refine ce_iconst (v := nI (2)) dX8_sizes_6 (by decide) ?_
    refine ce_ialdv dX8_sizes_7 (hA).1 rfl (hA).2 (by omega) (by decide) ((hr).c2) ?_
    refine ce_icmp_geN (tgt := 39) dX8_sizes_8 (by decide) rfl rfl (by omega) (by omega) (fun c_8 => ?_) (fun c_8 => ?_)
    · refine ce_iload_n dX8_sizes_39 rfl ?_
      refine ce_iret dX8_sizes_40 rfl rfl (by decide) (by decide) ?_
      exact ⟨congrArg (fun z => some (Value.int z)) (by rw [show i = F 0 2 by omega]), rfl, rfl⟩
    · refine ce_iload_n dX8_sizes_11 rfl ?_
      refine ce_iload_n dX8_sizes_12 rfl ?_
      refine ce_iload_n dX8_sizes_13 rfl ?_
      refine ce_ishr (z := nI (s / 2 ^ i)) dX8_sizes_14 (kp_shr (by omega) (by omega)) ?_
      refine ce_iconst (v := nI (1)) dX8_sizes_15 (by decide) ?_
      refine ce_iand (z := nI (s / 2 ^ i % 2)) dX8_sizes_16 (kp_bit _) ?_
      refine ce_iconst (v := nI (1)) dX8_sizes_17 (by decide) ?_
      refine ce_icmp_neN (tgt := 30) dX8_sizes_18 (by decide) rfl rfl (Nat.lt_trans (Nat.mod_lt _ (by decide)) (by decide)) (by decide) (fun c_18 => ?_) (fun c_18 => ?_)
      · refine ce_iconst (v := nI (0)) dX8_sizes_30 (by decide) ?_
        refine ce_iadd (z := nI (kp_room F s (i + 1))) dX8_sizes_31 ((nI_add _ _).trans (congrArg nI (by unfold kp_room; rw [ce_sum]; first | rw [if_pos (by assumption)] | rw [if_neg (by assumption)]))) ?_
        refine ce_istore_n dX8_sizes_32 (Nat.le_of_ble_eq_true rfl) rfl ?_
        refine ce_iinc (v := nI (i + 1)) dX8_sizes_33 rfl (ce_inc1 _) (Nat.le_of_ble_eq_true rfl) rfl ?_
        refine ce_goto (tgt := 4) dX8_sizes_36 (by decide) ?_
        exact ih (i + 1) (by omega) (by omega)
      · refine ce_aload_n dX8_sizes_21 rfl ?_
        refine ce_iload_n dX8_sizes_22 rfl ?_
        refine ce_cSp dX8_sizes_23 hX8_binAt kRX8_58 (m_X8_binAt (i)) rfl rfl (by decide) (Nat.le_of_ble_eq_true rfl) ?_
        refine ce_ialdv dX8_sizes_26 (hA).1 rfl (hA).2 (by omega) (by decide) ((hr).b0 (by omega)) ?_
        refine ce_goto (tgt := 31) dX8_sizes_27 (by decide) ?_
        refine ce_iadd (z := nI (kp_room F s (i + 1))) dX8_sizes_31 ((nI_add _ _).trans (congrArg nI (by unfold kp_room; rw [ce_sum]; first | rw [if_pos (by assumption)] | rw [if_neg (by assumption)]))) ?_
        refine ce_istore_n dX8_sizes_32 (Nat.le_of_ble_eq_true rfl) rfl ?_
        refine ce_iinc (v := nI (i + 1)) dX8_sizes_33 rfl (ce_inc1 _) (Nat.le_of_ble_eq_true rfl) rfl ?_
        refine ce_goto (tgt := 4) dX8_sizes_36 (by decide) ?_
        exact ih (i + 1) (by omega) (by omega)
set_option maxHeartbeats 2000000 in
set_option maxRecDepth 20000 in
theorem m_X8_sizes {σ : ce_S} {g : ce_D} (r : Nat) (F : ce_V) (O : Nat → Int32) (hA : ce_LA σ 10 r 189) (hr : cr_row (g r) F O) (s : Nat) (hs : s < 256) (h8 : F 0 2 ≤ 8) : ce_CT (ce_r 1) mX8_sizes [.ref (r), .int (nI (s))] σ g (ce_pv (nI (kp_room F s (F 0 2))) σ g) ce_no := by
  refine ce_enter (by decide) rfl (Nat.le_of_ble_eq_true rfl) (L := [some (.ref (r)), some (.int (nI (s))), none, none]) rfl ?_
  refine ce_iconst (v := nI (0)) dX8_sizes_0 (by decide) ?_
  refine ce_istore_n dX8_sizes_1 (Nat.le_of_ble_eq_true rfl) rfl ?_
  refine ce_iconst (v := nI (0)) dX8_sizes_2 (by decide) ?_
  refine ce_istore_n dX8_sizes_3 (Nat.le_of_ble_eq_true rfl) rfl ?_
  exact w_X8_sizes r F O hA hr s hs h8 (F 0 2 + 1) 0 (by omega) (by omega)
set_option maxHeartbeats 2000000 in
set_option maxRecDepth 20000 in
theorem w_X8_bits {σ : ce_S} {g : ce_D} (s : Nat) (hs : s < 256) : ∀ (n9 i : Nat), 8 - i < n9 → i ≤ 8 → ce_WP (ce_r 0) mX8_bits 0 0 4 [some (.int (nI (s))), some (.int (nI (ce_sum (fun b => s / 2 ^ b % 2) i))), some (.int (nI (i)))] [] σ g (ce_pv (nI (kp_bits s)) σ g) ce_no := by
  intro n9
  induction n9 with
  | zero =>
    intros
    omega
  | succ n9 ih =>
    intro i hm hi
    refine ce_iload_n dX8_bits_4 rfl ?_
    refine ce_bipush (v := nI (8)) dX8_bits_5 (by decide) ?_
    refine ce_icmp_geN (tgt := 24) dX8_bits_7 (by decide) rfl rfl (by omega) (by omega) (fun c_7 => ?_) (fun c_7 => ?_)
    · refine ce_iload_n dX8_bits_24 rfl ?_
      refine ce_iret dX8_bits_25 rfl rfl (by decide) (by decide) ?_
      exact ⟨congrArg (fun z => some (Value.int z)) (by rw [show i = 8 by omega]; rfl), rfl, rfl⟩
    · refine ce_iload_n dX8_bits_10 rfl ?_
      refine ce_iload_n dX8_bits_11 rfl ?_
      refine ce_iload_n dX8_bits_12 rfl ?_
      refine ce_ishr (z := nI (s / 2 ^ i)) dX8_bits_13 (kp_shr (by omega) (by omega)) ?_
      refine ce_iconst (v := nI (1)) dX8_bits_14 (by decide) ?_
      refine ce_iand (z := nI (s / 2 ^ i % 2)) dX8_bits_15 (kp_bit _) ?_
      refine ce_iadd (z := nI (ce_sum (fun b => s / 2 ^ b % 2) (i + 1))) dX8_bits_16 (nI_add _ _) ?_
      refine ce_istore_n dX8_bits_17 (Nat.le_of_ble_eq_true rfl) rfl ?_
      refine ce_iinc (v := nI (i + 1)) dX8_bits_18 rfl (ce_inc1 _) (Nat.le_of_ble_eq_true rfl) rfl ?_
      refine ce_goto (tgt := 4) dX8_bits_21 (by decide) ?_
      exact ih (i + 1) (by omega) (by omega)
set_option maxHeartbeats 2000000 in
set_option maxRecDepth 20000 in
theorem m_X8_bits {σ : ce_S} {g : ce_D} (s : Nat) (hs : s < 256) : ce_CT (ce_r 0) mX8_bits [.int (nI (s))] σ g (ce_pv (nI (kp_bits s)) σ g) ce_no := by
  refine ce_enter (by decide) rfl (Nat.le_of_ble_eq_true rfl) (L := [some (.int (nI (s))), none, none]) rfl ?_
  refine ce_iconst (v := nI (0)) dX8_bits_0 (by decide) ?_
  refine ce_istore_n dX8_bits_1 (Nat.le_of_ble_eq_true rfl) rfl ?_
  refine ce_iconst (v := nI (0)) dX8_bits_2 (by decide) ?_
  refine ce_istore_n dX8_bits_3 (Nat.le_of_ble_eq_true rfl) rfl ?_
  exact w_X8_bits s hs 9 0 (by omega) (by omega)
set_option maxHeartbeats 2000000 in
set_option maxRecDepth 20000 in
theorem w1_X8_layWine {σ : ce_S} {g0 : ce_D} (d sets n : Nat) (F : ce_V) (O : Nat → Int32) (f : Nat → Nat) (hD : ce_LM σ d) (hS : sets = 2 ^ F 0 2) (h256 : sets ≤ 256) (h8 : F 0 2 ≤ 8) (hk : kv_rk F) (hn : n ≤ 1000) (hf9 : ∀ s, s < 256 → f s ≤ 99) (hr0 : cr_row (g0 (d + 3)) F O) (hf0 : ∀ j, j < sets → g0 (d + 9) j = nI (f j)) (i : Nat) (hi : i < sets) (kk : ∀ g, (∀ j, j < i + 1 → g (d + 10) j = nI (kb_next (fun s => kp_room F s (F 0 2)) f n j)) → (∀ x, x ≠ d + 10 → g x = g0 x) → ce_WP (ce_r 2) mX8_layWine 0 0 111 [some (.ref (d)), some (.int (nI (n))), some (.int (nI (sets - 1))), some (.int (nI (i))), none, none] [] σ g (ce_uv σ (fun g1 => (∀ j, j < sets → g1 (d + 9) j = nI (kb_next (fun s => kp_room F s (F 0 2)) f n j)) ∧ ∀ x, x ≠ d + 9 → x ≠ d + 10 → g1 x = g0 x)) ce_no) : ∀ (n9 t p v : Nat) (g : ce_D), p < n9 → p ≤ i → p &&& i = p → (p < t ∧ t ≤ 256 ∧ v ≤ 99) → kb_lw (fun s => kp_room F s (F 0 2)) f n i t p v = kb_next (fun s => kp_room F s (F 0 2)) f n i → g (d + 10) i = nI v → (∀ j, j < i → g (d + 10) j = nI (kb_next (fun s => kp_room F s (F 0 2)) f n j)) → (∀ x, x ≠ d + 10 → g x = g0 x) → ce_WP (ce_r 2) mX8_layWine 0 0 29 [some (.ref (d)), some (.int (nI (n))), some (.int (nI (sets - 1))), some (.int (nI (i))), some (.int (nI (p))), none] [] σ g (ce_uv σ (fun g1 => (∀ j, j < sets → g1 (d + 9) j = nI (kb_next (fun s => kp_room F s (F 0 2)) f n j)) ∧ ∀ x, x ≠ d + 9 → x ≠ d + 10 → g1 x = g0 x)) ce_no := by
  intro n9
  induction n9 with
  | zero =>
    intros
    omega
  | succ n9 ih =>
    intro t p v g hm hp hps ht hlw hv hd hq
    have hx := kp_xs 8 i p (by omega) hps
    have hr : cr_row (g (d + 3)) F O := by rw [hq _ (by omega)]; exact hr0
    have hf : ∀ j, j < sets → g (d + 9) j = nI (f j) := fun j hj => by rw [hq _ (by omega)]; exact hf0 j hj
    have hfx := hf9 (i ^^^ p) (by omega)
    have hbp := kp_bits_le p
    have hrm := kp_room_le hk p (F 0 2)
    refine ce_iload dX8_layWine_29 rfl ?_
    refine ce_if_leN (tgt := 111) dX8_layWine_31 (by decide) rfl (by omega) (fun c_31 => ?_) (fun c_31 => ?_)
    · refine ce_drop (L' := [some (.ref (d)), some (.int (nI (n))), some (.int (nI (sets - 1))), some (.int (nI (i))), none, none]) (ce_le_s rfl (ce_le_s rfl (ce_le_s rfl (ce_le_s rfl (ce_le_n (ce_le_n ce_le_e)))))) ?_
      rw [show p = 0 by omega, kb_lw_0] at hlw
      exact kk g (fun j hj => (Nat.lt_or_ge j i).elim (hd j) (fun e => by rw [show j = i by omega, hv, hlw])) hq
    · refine ce_aload_n dX8_layWine_34 rfl ?_
      refine ce_getR dX8_layWine_35 fRX8_35 hD.1 hD.2.1.2.2.2.2.2.2.2.2.1 ?_
      refine ce_iload_n dX8_layWine_38 rfl ?_
      refine ce_iload dX8_layWine_39 rfl ?_
      refine ce_iconst (v := (-1)) dX8_layWine_41 (by decide) ?_
      refine ce_ixor (z := nI (p) ^^^ ((-1))) dX8_layWine_42 rfl ?_
      refine ce_iand (z := nI (i ^^^ p)) dX8_layWine_43 (kp_andnot hps) ?_
      refine ce_ialdv dX8_layWine_44 (hD.2.2.2.2.2.2.2.2.2.2.1).1 rfl (hD.2.2.2.2.2.2.2.2.2.2.1).2 (by omega) (by decide) (hf _ (by omega)) ?_
      refine ce_istore dX8_layWine_45 (Nat.le_of_ble_eq_true rfl) rfl ?_
      refine ce_aload_n dX8_layWine_47 rfl ?_
      refine ce_getR dX8_layWine_48 fRX8_38 hD.1 hD.2.1.2.2.2.2.2.2.2.2.2 ?_
      refine ce_iload_n dX8_layWine_51 rfl ?_
      refine ce_aload_n dX8_layWine_52 rfl ?_
      refine ce_getR dX8_layWine_53 fRX8_16 hD.1 hD.2.1.2.2.1 ?_
      refine ce_iload dX8_layWine_56 rfl ?_
      refine ce_cSp dX8_layWine_58 hX8_sizes kRX8_231 (m_X8_sizes (d + 3) F O ⟨(hD.2.2.2.2.1).1, (hD.2.2.2.2.1).2⟩ hr (p) (by omega) h8) rfl rfl (by decide) (Nat.le_of_ble_eq_true rfl) ?_
      refine ce_iload_n dX8_layWine_61 rfl ?_
      refine ce_icmp_ltN (tgt := 93) dX8_layWine_62 (by decide) rfl rfl (by omega) (by omega) (fun c_62 => ?_) (fun c_62 => ?_)
      · refine ce_aload_n dX8_layWine_93 rfl ?_
        refine ce_getR dX8_layWine_94 fRX8_38 hD.1 hD.2.1.2.2.2.2.2.2.2.2.2 ?_
        refine ce_iload_n dX8_layWine_97 rfl ?_
        refine ce_ialdv dX8_layWine_98 (hD.2.2.2.2.2.2.2.2.2.2.2).1 rfl (hD.2.2.2.2.2.2.2.2.2.2.2).2 (by omega) (by decide) hv ?_
        refine ce_iast dX8_layWine_99 (hD.2.2.2.2.2.2.2.2.2.2.2).1 rfl (hD.2.2.2.2.2.2.2.2.2.2.2).2 (by omega) (by decide) ?_
        generalize hcg1 : ce_up g (d + 10) (i) (nI (v)) = cg1
        refine ce_iload dX8_layWine_100 rfl ?_
        refine ce_iconst (v := nI (1)) dX8_layWine_102 (by decide) ?_
        refine ce_isub (z := nI (p - (1))) dX8_layWine_103 (pk_sub (by omega)) ?_
        refine ce_iload_n dX8_layWine_104 rfl ?_
        refine ce_iand (z := nI ((p - 1) &&& i)) dX8_layWine_105 (kp_and _ _) ?_
        refine ce_istore dX8_layWine_106 (Nat.le_of_ble_eq_true rfl) rfl ?_
        refine ce_goto (tgt := 29) dX8_layWine_108 (by decide) ?_
        refine ce_drop (L' := [some (.ref (d)), some (.int (nI (n))), some (.int (nI (sets - 1))), some (.int (nI (i))), some (.int (nI ((p - 1) &&& i))), none]) (ce_le_s rfl (ce_le_s rfl (ce_le_s rfl (ce_le_s rfl (ce_le_s rfl (ce_le_n ce_le_e)))))) ?_
        have l1 : (p - 1) &&& i ≤ p - 1 := Nat.and_le_left
        have l2 : (p - 1) &&& i ≤ i := Nat.and_le_right
        rw [kb_lw_1 (by omega) (by omega)] at hlw
        rw [if_neg (show ¬ (n ≤ kp_room F p (F 0 2) ∧ f (i ^^^ p) + kp_bits p < v) by omega)] at hlw
        exact ih (t - 1) ((p - 1) &&& i) (v) cg1 (by omega) (by omega) (kp_sub p i) (by omega) hlw (by rw [← hcg1]; exact ce_up_at _ _ _ _) (fun j hj => by rw [← hcg1, ce_up_j (by omega)]; exact hd j hj) (fun x hx => by rw [← hcg1, ce_up_ne _ _ _ hx]; exact hq x hx)
      · refine ce_iload dX8_layWine_65 rfl ?_
        refine ce_iload dX8_layWine_67 rfl ?_
        refine ce_cSp dX8_layWine_69 hX8_bits kRX8_234 (m_X8_bits (p) (by omega)) rfl rfl (by decide) (Nat.le_of_ble_eq_true rfl) ?_
        refine ce_iadd (z := nI (f (i ^^^ p) + (kp_bits p))) dX8_layWine_72 (nI_add _ _) ?_
        refine ce_aload_n dX8_layWine_73 rfl ?_
        refine ce_getR dX8_layWine_74 fRX8_38 hD.1 hD.2.1.2.2.2.2.2.2.2.2.2 ?_
        refine ce_iload_n dX8_layWine_77 rfl ?_
        refine ce_ialdv dX8_layWine_78 (hD.2.2.2.2.2.2.2.2.2.2.2).1 rfl (hD.2.2.2.2.2.2.2.2.2.2.2).2 (by omega) (by decide) hv ?_
        refine ce_icmp_geN (tgt := 93) dX8_layWine_79 (by decide) rfl rfl (by omega) (by omega) (fun c_79 => ?_) (fun c_79 => ?_)
        · refine ce_aload_n dX8_layWine_93 rfl ?_
          refine ce_getR dX8_layWine_94 fRX8_38 hD.1 hD.2.1.2.2.2.2.2.2.2.2.2 ?_
          refine ce_iload_n dX8_layWine_97 rfl ?_
          refine ce_ialdv dX8_layWine_98 (hD.2.2.2.2.2.2.2.2.2.2.2).1 rfl (hD.2.2.2.2.2.2.2.2.2.2.2).2 (by omega) (by decide) hv ?_
          refine ce_iast dX8_layWine_99 (hD.2.2.2.2.2.2.2.2.2.2.2).1 rfl (hD.2.2.2.2.2.2.2.2.2.2.2).2 (by omega) (by decide) ?_
          generalize hcg1 : ce_up g (d + 10) (i) (nI (v)) = cg1
          refine ce_iload dX8_layWine_100 rfl ?_
          refine ce_iconst (v := nI (1)) dX8_layWine_102 (by decide) ?_
          refine ce_isub (z := nI (p - (1))) dX8_layWine_103 (pk_sub (by omega)) ?_
          refine ce_iload_n dX8_layWine_104 rfl ?_
          refine ce_iand (z := nI ((p - 1) &&& i)) dX8_layWine_105 (kp_and _ _) ?_
          refine ce_istore dX8_layWine_106 (Nat.le_of_ble_eq_true rfl) rfl ?_
          refine ce_goto (tgt := 29) dX8_layWine_108 (by decide) ?_
          refine ce_drop (L' := [some (.ref (d)), some (.int (nI (n))), some (.int (nI (sets - 1))), some (.int (nI (i))), some (.int (nI ((p - 1) &&& i))), none]) (ce_le_s rfl (ce_le_s rfl (ce_le_s rfl (ce_le_s rfl (ce_le_s rfl (ce_le_n ce_le_e)))))) ?_
          have l1 : (p - 1) &&& i ≤ p - 1 := Nat.and_le_left
          have l2 : (p - 1) &&& i ≤ i := Nat.and_le_right
          rw [kb_lw_1 (by omega) (by omega)] at hlw
          rw [if_neg (show ¬ (n ≤ kp_room F p (F 0 2) ∧ f (i ^^^ p) + kp_bits p < v) by omega)] at hlw
          exact ih (t - 1) ((p - 1) &&& i) (v) cg1 (by omega) (by omega) (kp_sub p i) (by omega) hlw (by rw [← hcg1]; exact ce_up_at _ _ _ _) (fun j hj => by rw [← hcg1, ce_up_j (by omega)]; exact hd j hj) (fun x hx => by rw [← hcg1, ce_up_ne _ _ _ hx]; exact hq x hx)
        · refine ce_iload dX8_layWine_82 rfl ?_
          refine ce_iload dX8_layWine_84 rfl ?_
          refine ce_cSp dX8_layWine_86 hX8_bits kRX8_234 (m_X8_bits (p) (by omega)) rfl rfl (by decide) (Nat.le_of_ble_eq_true rfl) ?_
          refine ce_iadd (z := nI (f (i ^^^ p) + (kp_bits p))) dX8_layWine_89 (nI_add _ _) ?_
          refine ce_goto (tgt := 99) dX8_layWine_90 (by decide) ?_
          refine ce_iast dX8_layWine_99 (hD.2.2.2.2.2.2.2.2.2.2.2).1 rfl (hD.2.2.2.2.2.2.2.2.2.2.2).2 (by omega) (by decide) ?_
          generalize hcg1 : ce_up g (d + 10) (i) (nI (f (i ^^^ p) + (kp_bits p))) = cg1
          refine ce_iload dX8_layWine_100 rfl ?_
          refine ce_iconst (v := nI (1)) dX8_layWine_102 (by decide) ?_
          refine ce_isub (z := nI (p - (1))) dX8_layWine_103 (pk_sub (by omega)) ?_
          refine ce_iload_n dX8_layWine_104 rfl ?_
          refine ce_iand (z := nI ((p - 1) &&& i)) dX8_layWine_105 (kp_and _ _) ?_
          refine ce_istore dX8_layWine_106 (Nat.le_of_ble_eq_true rfl) rfl ?_
          refine ce_goto (tgt := 29) dX8_layWine_108 (by decide) ?_
          refine ce_drop (L' := [some (.ref (d)), some (.int (nI (n))), some (.int (nI (sets - 1))), some (.int (nI (i))), some (.int (nI ((p - 1) &&& i))), none]) (ce_le_s rfl (ce_le_s rfl (ce_le_s rfl (ce_le_s rfl (ce_le_s rfl (ce_le_n ce_le_e)))))) ?_
          have l1 : (p - 1) &&& i ≤ p - 1 := Nat.and_le_left
          have l2 : (p - 1) &&& i ≤ i := Nat.and_le_right
          rw [kb_lw_1 (by omega) (by omega)] at hlw
          rw [if_pos (show (n ≤ kp_room F p (F 0 2) ∧ f (i ^^^ p) + kp_bits p < v) by omega)] at hlw
          exact ih (t - 1) ((p - 1) &&& i) (f (i ^^^ p) + (kp_bits p)) cg1 (by omega) (by omega) (kp_sub p i) (by omega) hlw (by rw [← hcg1]; exact ce_up_at _ _ _ _) (fun j hj => by rw [← hcg1, ce_up_j (by omega)]; exact hd j hj) (fun x hx => by rw [← hcg1, ce_up_ne _ _ _ hx]; exact hq x hx)
set_option maxHeartbeats 2000000 in
set_option maxRecDepth 20000 in
theorem w_X8_layWine {σ : ce_S} {g0 : ce_D} (d sets n : Nat) (F : ce_V) (O : Nat → Int32) (f : Nat → Nat) (hD : ce_LM σ d) (hS : sets = 2 ^ F 0 2) (h256 : sets ≤ 256) (h8 : F 0 2 ≤ 8) (hk : kv_rk F) (hn : n ≤ 1000) (hf9 : ∀ s, s < 256 → f s ≤ 99) (hr0 : cr_row (g0 (d + 3)) F O) (hf0 : ∀ j, j < sets → g0 (d + 9) j = nI (f j)) : ∀ (n9 i : Nat) (g : ce_D), sets - i < n9 → i ≤ sets → (∀ j, j < i → g (d + 10) j = nI (kb_next (fun s => kp_room F s (F 0 2)) f n j)) → (∀ x, x ≠ d + 10 → g x = g0 x) → ce_WP (ce_r 2) mX8_layWine 0 0 13 [some (.ref (d)), some (.int (nI (n))), some (.int (nI (sets - 1))), some (.int (nI (i))), none, none] [] σ g (ce_uv σ (fun g1 => (∀ j, j < sets → g1 (d + 9) j = nI (kb_next (fun s => kp_room F s (F 0 2)) f n j)) ∧ ∀ x, x ≠ d + 9 → x ≠ d + 10 → g1 x = g0 x)) ce_no := by
  intro n9
  induction n9 with
  | zero =>
    intros
    omega
  | succ n9 ih =>
    intro i g hm hi hd hq
    have hps : 0 < sets := by rw [hS]; exact Nat.two_pow_pos _
    have hr : cr_row (g (d + 3)) F O := by rw [hq _ (by omega)]; exact hr0
    refine ce_iload_n dX8_layWine_13 rfl ?_
    refine ce_iload_n dX8_layWine_14 rfl ?_
    refine ce_icmp_gtN (tgt := 117) dX8_layWine_15 (by decide) rfl rfl (by omega) (by omega) (fun c_15 => ?_) (fun c_15 => ?_)
    · refine ce_aload_n dX8_layWine_117 rfl ?_
      refine ce_getR dX8_layWine_118 fRX8_38 hD.1 hD.2.1.2.2.2.2.2.2.2.2.2 ?_
      refine ce_iconst (v := nI (0)) dX8_layWine_121 (by decide) ?_
      refine ce_aload_n dX8_layWine_122 rfl ?_
      refine ce_getR dX8_layWine_123 fRX8_35 hD.1 hD.2.1.2.2.2.2.2.2.2.2.1 ?_
      refine ce_iconst (v := nI (0)) dX8_layWine_126 (by decide) ?_
      refine ce_iload_n dX8_layWine_127 rfl ?_
      refine ce_iconst (v := nI (1)) dX8_layWine_128 (by decide) ?_
      refine ce_iadd (z := nI (sets - 1 + 1)) dX8_layWine_129 (nI_add _ _) ?_
      refine ce_cSu dX8_layWine_130 hX8_copy kRX8_50 (m_X8_copy (d + 10) 0 (d + 9) 0 (sets - 1 + 1) 256 256 ⟨(hD.2.2.2.2.2.2.2.2.2.2.2).1, (hD.2.2.2.2.2.2.2.2.2.2.2).2⟩ ⟨(hD.2.2.2.2.2.2.2.2.2.2.1).1, (hD.2.2.2.2.2.2.2.2.2.2.1).2⟩ (by omega) (by omega) (by omega) (by omega)) rfl rfl (by decide) (Nat.le_of_ble_eq_true rfl) (fun cg1 hcg1 => ?_)
      exact ce_vret dX8_layWine_133 rfl (by decide) (by decide) ⟨rfl, rfl, fun j hj => by rw [hcg1, ce_mv_in (by omega), Nat.zero_add, Nat.sub_zero]; exact hd j (by omega), fun x h1 h2 => by rw [hcg1, ce_mv_ne h1]; exact hq x h2⟩
    · refine ce_aload_n dX8_layWine_18 rfl ?_
      refine ce_getR dX8_layWine_19 fRX8_38 hD.1 hD.2.1.2.2.2.2.2.2.2.2.2 ?_
      refine ce_iload_n dX8_layWine_22 rfl ?_
      refine ce_bipush (v := nI (99)) dX8_layWine_23 (by decide) ?_
      refine ce_iast dX8_layWine_25 (hD.2.2.2.2.2.2.2.2.2.2.2).1 rfl (hD.2.2.2.2.2.2.2.2.2.2.2).2 (by omega) (by decide) ?_
      generalize hcg1 : ce_up g (d + 10) (i) (nI (99)) = cg1
      refine ce_iload_n dX8_layWine_26 rfl ?_
      refine ce_istore dX8_layWine_27 (Nat.le_of_ble_eq_true rfl) rfl ?_
      refine w1_X8_layWine d sets n F O f hD hS h256 h8 hk hn hf9 hr0 hf0 i (by omega) (fun g1 hd1 hq1 => ?_) (i + 1) 256 i 99 cg1 (by omega) (by omega) (Nat.and_self i) (by omega) rfl (by rw [← hcg1]; exact ce_up_at _ _ _ _) (fun j hj => by rw [← hcg1, ce_up_j (by omega)]; exact hd j hj) (fun x hx => by rw [← hcg1, ce_up_ne _ _ _ hx]; exact hq x hx)
      refine ce_iinc (v := nI (i + 1)) dX8_layWine_111 rfl (ce_inc1 _) (Nat.le_of_ble_eq_true rfl) rfl ?_
      refine ce_goto (tgt := 13) dX8_layWine_114 (by decide) ?_
      exact ih (i + 1) g1 (by omega) (by omega) hd1 hq1
set_option maxHeartbeats 2000000 in
set_option maxRecDepth 20000 in
theorem m_X8_layWine {σ : ce_S} {g0 : ce_D} (d sets n : Nat) (F : ce_V) (O : Nat → Int32) (f : Nat → Nat) (hD : ce_LM σ d) (hS : sets = 2 ^ F 0 2) (h256 : sets ≤ 256) (h8 : F 0 2 ≤ 8) (hk : kv_rk F) (hn : n ≤ 1000) (hf9 : ∀ s, s < 256 → f s ≤ 99) (hr0 : cr_row (g0 (d + 3)) F O) (hf0 : ∀ j, j < sets → g0 (d + 9) j = nI (f j)) : ce_CT (ce_r 2) mX8_layWine [.ref (d), .int (nI (n))] σ g0 (ce_uv σ (fun g1 => (∀ j, j < sets → g1 (d + 9) j = nI (kb_next (fun s => kp_room F s (F 0 2)) f n j)) ∧ ∀ x, x ≠ d + 9 → x ≠ d + 10 → g1 x = g0 x)) ce_no := by
  have hps : 0 < sets := by rw [hS]; exact Nat.two_pow_pos _
  refine ce_enter (by decide) rfl (Nat.le_of_ble_eq_true rfl) (L := [some (.ref (d)), some (.int (nI (n))), none, none, none, none]) rfl ?_
  refine ce_iconst (v := nI (1)) dX8_layWine_0 (by decide) ?_
  refine ce_aload_n dX8_layWine_1 rfl ?_
  refine ce_getR dX8_layWine_2 fRX8_16 hD.1 hD.2.1.2.2.1 ?_
  refine ce_iconst (v := nI (2)) dX8_layWine_5 (by decide) ?_
  refine ce_ialdv dX8_layWine_6 (hD.2.2.2.2.1).1 rfl (hD.2.2.2.2.1).2 (by omega) (by decide) ((hr0).c2) ?_
  refine ce_ishl (z := nI (sets)) dX8_layWine_7 (hS ▸ kp_shl (by omega)) ?_
  refine ce_iconst (v := nI (1)) dX8_layWine_8 (by decide) ?_
  refine ce_isub (z := nI (sets - (1))) dX8_layWine_9 (pk_sub (by omega)) ?_
  refine ce_istore_n dX8_layWine_10 (Nat.le_of_ble_eq_true rfl) rfl ?_
  refine ce_iconst (v := nI (0)) dX8_layWine_11 (by decide) ?_
  refine ce_istore_n dX8_layWine_12 (Nat.le_of_ble_eq_true rfl) rfl ?_
  exact w_X8_layWine d sets n F O f hD hS h256 h8 hk hn hf9 hr0 hf0 (sets + 1) 0 g0 (by omega) (by omega) (fun j hj => absurd hj (Nat.not_lt_zero j)) (fun _ _ => rfl)
set_option maxHeartbeats 2000000 in
set_option maxRecDepth 20000 in
theorem w_X8_fewestBins {σ : ce_S} {g0 : ce_D} (d sets : Nat) (K : ce_V) (O : Nat → Int32) (hD : ce_LM σ d) (hS : sets = 2 ^ kq K 0 2) (h256 : sets ≤ 256) (hk : kv_cl K) (hr0 : cr_row (g0 (d + 3)) (kq K) O) : ∀ (n9 w : Nat) (g : ce_D), K 0 1 - w < n9 → w ≤ K 0 1 → (∀ j, j < sets → g (d + 9) j = nI (kb_fw K w j)) → (∀ x, x ≠ d + 9 → x ≠ d + 10 → g x = g0 x) → ce_WP (ce_r 3) mX8_fewestBins 0 0 29 [some (.ref (d)), some (.int (nI (w))), none] [] σ g (ce_rv σ (fun z9 g1 => z9 = nI (kp_few K) ∧ ∀ x, x ≠ d + 9 → x ≠ d + 10 → g1 x = g0 x)) ce_no := by
  intro n9
  induction n9 with
  | zero =>
    intros
    omega
  | succ n9 ih =>
    intro w g hm hw hf hq
    have hB := hk.i7
    have hM := hk.me
    have hW := hk.wi
    have e0 : kq K 0 = K 0 := kq_ne (by decide)
    have h6 : kq K 0 0 ≤ 6 := by rw [e0]; exact hM
    have h8 : kq K 0 2 ≤ 8 := by rw [e0]; exact hB
    have ee1 : kq K 0 1 = K 0 1 := by rw [e0]
    have ee2 : kq K 0 2 = K 0 2 := by rw [e0]
    have hps : 0 < sets := by rw [hS]; exact Nat.two_pow_pos _
    have hr : cr_row (g (d + 3)) (kq K) O := by rw [hq _ (by omega) (by omega)]; exact hr0
    refine ce_iload_n dX8_fewestBins_29 rfl ?_
    refine ce_aload_n dX8_fewestBins_30 rfl ?_
    refine ce_getR dX8_fewestBins_31 fRX8_16 hD.1 hD.2.1.2.2.1 ?_
    refine ce_iconst (v := nI (1)) dX8_fewestBins_34 (by decide) ?_
    refine ce_ialdv dX8_fewestBins_35 (hD.2.2.2.2.1).1 rfl (hD.2.2.2.2.1).2 (by omega) (by decide) ((hr).c1) ?_
    refine ce_icmp_geN (tgt := 64) dX8_fewestBins_36 (by decide) rfl rfl (by omega) (by omega) (fun c_36 => ?_) (fun c_36 => ?_)
    · refine ce_aload_n dX8_fewestBins_64 rfl ?_
      refine ce_getR dX8_fewestBins_65 fRX8_35 hD.1 hD.2.1.2.2.2.2.2.2.2.2.1 ?_
      refine ce_iconst (v := nI (1)) dX8_fewestBins_68 (by decide) ?_
      refine ce_aload_n dX8_fewestBins_69 rfl ?_
      refine ce_getR dX8_fewestBins_70 fRX8_16 hD.1 hD.2.1.2.2.1 ?_
      refine ce_iconst (v := nI (2)) dX8_fewestBins_73 (by decide) ?_
      refine ce_ialdv dX8_fewestBins_74 (hD.2.2.2.2.1).1 rfl (hD.2.2.2.2.1).2 (by omega) (by decide) ((hr).c2) ?_
      refine ce_ishl (z := nI (sets)) dX8_fewestBins_75 (hS ▸ kp_shl (by omega)) ?_
      refine ce_iconst (v := nI (1)) dX8_fewestBins_76 (by decide) ?_
      refine ce_isub (z := nI (sets - (1))) dX8_fewestBins_77 (pk_sub (by omega)) ?_
      refine ce_ialdv dX8_fewestBins_78 (hD.2.2.2.2.2.2.2.2.2.2.1).1 rfl (hD.2.2.2.2.2.2.2.2.2.2.1).2 (by omega) (by decide) (hf _ (by omega)) ?_
      refine ce_iret dX8_fewestBins_79 rfl rfl (by decide) (by decide) ?_
      exact ⟨_, rfl, rfl, congrArg nI (by rw [← kb_few hk, ← ee2, ← hS, show w = K 0 1 by omega]), hq⟩
    · have hbo := hk.bo w (by omega)
      have esum : ce_sum (fun m => kq K 9 (m * 6 + w)) (kq K 0 0) = kv_sum K 9 w := by rw [kq_ne (a := 9) (by decide), e0]; exact kq_sum8 hk (by omega) (by omega)
      refine ce_aload_n dX8_fewestBins_39 rfl ?_
      refine ce_getR dX8_fewestBins_40 fRX8_16 hD.1 hD.2.1.2.2.1 ?_
      refine ce_iload_n dX8_fewestBins_43 rfl ?_
      refine ce_iconst (v := nI (2)) dX8_fewestBins_44 (by decide) ?_
      refine ce_cSp dX8_fewestBins_45 hX8_allOf kRX8_95 (esum ▸ m_X8_allOf2 (d + 3) (kq K) O ⟨(hD.2.2.2.2.1).1, (hD.2.2.2.2.1).2⟩ hr (w) h6 (by omega)) rfl rfl (by decide) (Nat.le_of_ble_eq_true rfl) ?_
      refine ce_istore_n dX8_fewestBins_48 (Nat.le_of_ble_eq_true rfl) rfl ?_
      refine ce_iload_n dX8_fewestBins_49 rfl ?_
      refine ce_if_leN (tgt := 58) dX8_fewestBins_50 (by decide) rfl (by omega) (fun c_50 => ?_) (fun c_50 => ?_)
      · refine ce_iinc (v := nI (w + 1)) dX8_fewestBins_58 rfl (ce_inc1 _) (Nat.le_of_ble_eq_true rfl) rfl ?_
        refine ce_goto (tgt := 29) dX8_fewestBins_61 (by decide) ?_
        refine ce_drop (L' := [some (.ref (d)), some (.int (nI (w + 1))), none]) (ce_le_s rfl (ce_le_s rfl (ce_le_n ce_le_e))) ?_
        have e9 : kb_fw K (w + 1) = kb_fw K w := if_pos (by omega)
        exact ih (w + 1) g (by omega) (by omega) (by rw [e9]; exact hf) hq
      · refine ce_aload_n dX8_fewestBins_53 rfl ?_
        refine ce_iload_n dX8_fewestBins_54 rfl ?_
        refine ce_cVu dX8_fewestBins_55 hX8_layWine kRX8_237 (m_X8_layWine d sets (kv_sum K 9 w) (kq K) O (kb_fw K w) hD hS h256 h8 (kq_rk hk.rk) (by omega) (fun s hs => (kb_M_all w s hs).1) hr hf) rfl rfl hD.1 rfl (by decide) (Nat.le_of_ble_eq_true rfl) (fun cg1 hcg1 => ?_)
        refine ce_iinc (v := nI (w + 1)) dX8_fewestBins_58 rfl (ce_inc1 _) (Nat.le_of_ble_eq_true rfl) rfl ?_
        refine ce_goto (tgt := 29) dX8_fewestBins_61 (by decide) ?_
        refine ce_drop (L' := [some (.ref (d)), some (.int (nI (w + 1))), none]) (ce_le_s rfl (ce_le_s rfl (ce_le_n ce_le_e))) ?_
        have e9 : kb_fw K (w + 1) = kb_next (fun s => kp_room K s (K 0 2)) (kb_fw K w) (kv_sum K 9 w) := if_neg (by omega)
        have e8 : (fun s => kp_room (kq K) s (kq K 0 2)) = fun s => kp_room K s (K 0 2) := by funext s; unfold kp_room; rw [kq_ne (a := 11) (by decide), e0]
        rw [e8] at hcg1
        exact ih (w + 1) cg1 (by omega) (by omega) (by rw [e9]; exact hcg1.1) (fun x h1 h2 => (hcg1.2 x h1 h2).trans (hq x h1 h2))
set_option maxHeartbeats 2000000 in
set_option maxRecDepth 20000 in
theorem w0_X8_fewestBins {σ : ce_S} {g0 : ce_D} (d sets : Nat) (K : ce_V) (O : Nat → Int32) (hD : ce_LM σ d) (hS : sets = 2 ^ kq K 0 2) (h256 : sets ≤ 256) (hk : kv_cl K) (hr0 : cr_row (g0 (d + 3)) (kq K) O) : ∀ (n9 i : Nat) (g : ce_D), 256 - i < n9 → i ≤ 256 → (∀ j, j < i → g (d + 9) j = nI 0) → (∀ x, x ≠ d + 9 → x ≠ d + 10 → g x = g0 x) → ce_WP (ce_r 3) mX8_fewestBins 0 0 7 [some (.ref (d)), some (.int (nI (i))), none] [] σ g (ce_rv σ (fun z9 g1 => z9 = nI (kp_few K) ∧ ∀ x, x ≠ d + 9 → x ≠ d + 10 → g1 x = g0 x)) ce_no := by
  intro n9
  induction n9 with
  | zero =>
    intros
    omega
  | succ n9 ih =>
    intro i g hm hi hz hq
    refine ce_iload_n dX8_fewestBins_7 rfl ?_
    refine ce_sipush (v := nI (256)) dX8_fewestBins_8 (by decide) ?_
    refine ce_icmp_geN (tgt := 27) dX8_fewestBins_11 (by decide) rfl rfl (by omega) (by omega) (fun c_11 => ?_) (fun c_11 => ?_)
    · refine ce_iconst (v := nI (0)) dX8_fewestBins_27 (by decide) ?_
      refine ce_istore_n dX8_fewestBins_28 (Nat.le_of_ble_eq_true rfl) rfl ?_
      exact w_X8_fewestBins d sets K O hD hS h256 hk hr0 (K 0 1 + 1) 0 g (by omega) (by omega) (fun j hj => hz j (by omega)) hq
    · refine ce_aload_n dX8_fewestBins_14 rfl ?_
      refine ce_getR dX8_fewestBins_15 fRX8_35 hD.1 hD.2.1.2.2.2.2.2.2.2.2.1 ?_
      refine ce_iload_n dX8_fewestBins_18 rfl ?_
      refine ce_iconst (v := nI (0)) dX8_fewestBins_19 (by decide) ?_
      refine ce_iast dX8_fewestBins_20 (hD.2.2.2.2.2.2.2.2.2.2.1).1 rfl (hD.2.2.2.2.2.2.2.2.2.2.1).2 (by omega) (by decide) ?_
      generalize hcg1 : ce_up g (d + 9) (i) (nI (0)) = cg1
      refine ce_iinc (v := nI (i + 1)) dX8_fewestBins_21 rfl (ce_inc1 _) (Nat.le_of_ble_eq_true rfl) rfl ?_
      refine ce_goto (tgt := 7) dX8_fewestBins_24 (by decide) ?_
      refine ih (i + 1) cg1 (by omega) (by omega) (fun j hj => ?_) (fun x h1 h2 => by rw [← hcg1, ce_up_ne _ _ _ h1]; exact hq x h1 h2)
      rw [← hcg1, ce_up_eq]
      unfold upd
      by_cases e : j = i
      · rw [if_pos e]
      · rw [if_neg e]; exact hz j (by omega)
set_option maxHeartbeats 2000000 in
set_option maxRecDepth 20000 in
theorem m_X8_fewestBins {σ : ce_S} {g0 : ce_D} (d : Nat) (K : ce_V) (O : Nat → Int32) (hD : ce_LM σ d) (hk : kv_cl K) (hr0 : cr_row (g0 (d + 3)) (kq K) O) : ce_CT (ce_r 3) mX8_fewestBins [.ref (d)] σ g0 (ce_rv σ (fun z9 g1 => z9 = nI (kp_few K) ∧ ∀ x, x ≠ d + 9 → x ≠ d + 10 → g1 x = ce_up g0 d 0 (nI 0) x)) ce_no := by
  obtain ⟨sets, hS⟩ : ∃ n, n = 2 ^ kq K 0 2 := ⟨_, rfl⟩
  have h256 : sets ≤ 2 ^ 8 := hS ▸ Nat.pow_le_pow_right (by decide) (by rw [kq_ne (a := 0) (by decide)]; exact hk.i7)
  have h256 : sets ≤ 256 := h256
  refine ce_enter (by decide) rfl (Nat.le_of_ble_eq_true rfl) (L := [some (.ref (d)), none, none]) rfl ?_
  refine ce_aload_n dX8_fewestBins_0 rfl ?_
  refine ce_iconst (v := nI (0)) dX8_fewestBins_1 (by decide) ?_
  refine ce_putI dX8_fewestBins_2 pRX8_41 hD.1 rfl rfl ?_
  generalize hcg1 : ce_up g0 (d) 0 (nI (0)) = cg1
  refine ce_iconst (v := nI (0)) dX8_fewestBins_5 (by decide) ?_
  refine ce_istore_n dX8_fewestBins_6 (Nat.le_of_ble_eq_true rfl) rfl ?_
  exact (w0_X8_fewestBins d sets K O hD hS h256 hk (g0 := cg1) (by rw [← hcg1, ce_up_ne _ _ _ (by omega)]; exact hr0) 257 0 cg1 (by omega) (by omega) (fun j hj => absurd hj (Nat.not_lt_zero j)) (fun _ _ _ => rfl))
