set_option maxHeartbeats 2000000 in
set_option maxRecDepth 20000 in
theorem m_X8_memberAt {σ : ce_S} {g : ce_D} (m : Nat) : ce_CT (ce_r 0) mX8_memberAt [.int (nI (m))] σ g (ce_pv (nI (3 + 3 * m)) σ g) ce_no := by
  refine ce_enter (by decide) rfl (Nat.le_of_ble_eq_true rfl) (L := [some (.int (nI (m)))]) rfl ?_
  refine ce_iconst (v := nI (3)) dX8_memberAt_0 (by decide) ?_
  refine ce_iconst (v := nI (3)) dX8_memberAt_1 (by decide) ?_
  refine ce_iload_n dX8_memberAt_2 rfl ?_
  refine ce_imul (z := nI (3 * m)) dX8_memberAt_3 (pk_mul _ _) ?_
  refine ce_iadd (z := nI (3 + 3 * m)) dX8_memberAt_4 (nI_add _ _) ?_
  refine ce_iret dX8_memberAt_5 rfl rfl (by decide) (by decide) ?_
  exact ⟨rfl, rfl, rfl⟩
set_option maxHeartbeats 2000000 in
set_option maxRecDepth 20000 in
theorem m_X8_wineAt {σ : ce_S} {g : ce_D} (w : Nat) : ce_CT (ce_r 0) mX8_wineAt [.int (nI (w))] σ g (ce_pv (nI (21 + 6 * w)) σ g) ce_no := by
  refine ce_enter (by decide) rfl (Nat.le_of_ble_eq_true rfl) (L := [some (.int (nI (w)))]) rfl ?_
  refine ce_bipush (v := nI (21)) dX8_wineAt_0 (by decide) ?_
  refine ce_bipush (v := nI (6)) dX8_wineAt_2 (by decide) ?_
  refine ce_iload_n dX8_wineAt_4 rfl ?_
  refine ce_imul (z := nI (6 * w)) dX8_wineAt_5 (pk_mul _ _) ?_
  refine ce_iadd (z := nI (21 + 6 * w)) dX8_wineAt_6 (nI_add _ _) ?_
  refine ce_iret dX8_wineAt_7 rfl rfl (by decide) (by decide) ?_
  exact ⟨rfl, rfl, rfl⟩
set_option maxHeartbeats 2000000 in
set_option maxRecDepth 20000 in
theorem m_X8_binAt {σ : ce_S} {g : ce_D} (b : Nat) : ce_CT (ce_r 0) mX8_binAt [.int (nI (b))] σ g (ce_pv (nI (57 + 3 * b)) σ g) ce_no := by
  refine ce_enter (by decide) rfl (Nat.le_of_ble_eq_true rfl) (L := [some (.int (nI (b)))]) rfl ?_
  refine ce_bipush (v := nI (57)) dX8_binAt_0 (by decide) ?_
  refine ce_iconst (v := nI (3)) dX8_binAt_2 (by decide) ?_
  refine ce_iload_n dX8_binAt_3 rfl ?_
  refine ce_imul (z := nI (3 * b)) dX8_binAt_4 (pk_mul _ _) ?_
  refine ce_iadd (z := nI (57 + 3 * b)) dX8_binAt_5 (nI_add _ _) ?_
  refine ce_iret dX8_binAt_6 rfl rfl (by decide) (by decide) ?_
  exact ⟨rfl, rfl, rfl⟩
set_option maxHeartbeats 2000000 in
set_option maxRecDepth 20000 in
theorem m_X8_hold {σ : ce_S} {g : ce_D} (m w : Nat) : ce_CT (ce_r 0) mX8_hold [.int (nI (m)), .int (nI (w))] σ g (ce_pv (nI (81 + 18 * m + 3 * w)) σ g) ce_no := by
  refine ce_enter (by decide) rfl (Nat.le_of_ble_eq_true rfl) (L := [some (.int (nI (m))), some (.int (nI (w)))]) rfl ?_
  refine ce_bipush (v := nI (81)) dX8_hold_0 (by decide) ?_
  refine ce_bipush (v := nI (18)) dX8_hold_2 (by decide) ?_
  refine ce_iload_n dX8_hold_4 rfl ?_
  refine ce_imul (z := nI (18 * m)) dX8_hold_5 (pk_mul _ _) ?_
  refine ce_iadd (z := nI (81 + 18 * m)) dX8_hold_6 (nI_add _ _) ?_
  refine ce_iconst (v := nI (3)) dX8_hold_7 (by decide) ?_
  refine ce_iload_n dX8_hold_8 rfl ?_
  refine ce_imul (z := nI (3 * w)) dX8_hold_9 (pk_mul _ _) ?_
  refine ce_iadd (z := nI (81 + 18 * m + 3 * w)) dX8_hold_10 (nI_add _ _) ?_
  refine ce_iret dX8_hold_11 rfl rfl (by decide) (by decide) ?_
  exact ⟨rfl, rfl, rfl⟩
set_option maxHeartbeats 2000000 in
set_option maxRecDepth 20000 in
theorem m_X8_half {σ : ce_S} {g : ce_D} (n : Nat) (hn : n < 1000000) : ce_CT (ce_r 0) mX8_half [.int (nI (n))] σ g (ce_pv (nI ((n + 1) / 2)) σ g) ce_no := by
  refine ce_enter (by decide) rfl (Nat.le_of_ble_eq_true rfl) (L := [some (.int (nI (n)))]) rfl ?_
  refine ce_iload_n dX8_half_0 rfl ?_
  refine ce_iconst (v := nI (1)) dX8_half_1 (by decide) ?_
  refine ce_iadd (z := nI (n + 1)) dX8_half_2 (nI_add _ _) ?_
  refine ce_iconst (v := nI (2)) dX8_half_3 (by decide) ?_
  refine ce_idiv (z := nI ((n + 1) / (2))) dX8_half_4 (nI_ne0 (by omega) (by omega)) (pk_div (by omega) (by omega) (by omega)) ?_
  refine ce_iret dX8_half_5 rfl rfl (by decide) (by decide) ?_
  exact ⟨rfl, rfl, rfl⟩
theorem cr_lt {p q : Int64} : p < q ↔ p.toInt < q.toInt := Int64.lt_iff_toInt_lt
set_option maxHeartbeats 2000000 in
set_option maxRecDepth 20000 in
theorem m_X8_in {σ : ce_S} {g : ce_D} (v lo hi : Int64) (P : Prop) [Decidable P] (h : P ↔ lo.toInt ≤ v.toInt ∧ v.toInt ≤ hi.toInt) : ce_CT (ce_r 0) mX8_in [.long (v), .long (lo), .long (hi)] σ g (ce_pv (if P then 1 else 0) σ g) ce_no := by
  refine ce_enter (by decide) rfl (Nat.le_of_ble_eq_true rfl) (L := [some (.long (v)), none, some (.long (lo)), none, some (.long (hi)), none]) rfl ?_
  refine ce_lload_n dX8_in_0 rfl ?_
  refine ce_lload_n dX8_in_1 rfl ?_
  refine ce_lcmp (z := lg_cmp (v) (lo)) dX8_in_2 rfl ?_
  refine ce_if_ltC (tgt := 17) dX8_in_3 (by decide) rfl (fun c_3 => ?_) (fun c_3 => ?_)
  · refine ce_iconst (v := nI (0)) dX8_in_17 (by decide) ?_
    refine ce_iret dX8_in_18 rfl (by first | rfl | decide | assumption) (by decide) (by decide) ?_
    exact ⟨congrArg (fun z => some (Value.int z)) ((if_neg (fun e => by have e2 := h.mp e; have := cr_lt.mp c_3; omega)).symm), rfl, rfl⟩
  · refine ce_lload_n dX8_in_6 rfl ?_
    refine ce_lload dX8_in_7 rfl ?_
    refine ce_lcmp (z := lg_cmp (v) (hi)) dX8_in_9 rfl ?_
    refine ce_if_gtC (tgt := 17) dX8_in_10 (by decide) rfl (fun c_10 => ?_) (fun c_10 => ?_)
    · refine ce_iconst (v := nI (0)) dX8_in_17 (by decide) ?_
      refine ce_iret dX8_in_18 rfl (by first | rfl | decide | assumption) (by decide) (by decide) ?_
      exact ⟨congrArg (fun z => some (Value.int z)) ((if_neg (fun e => by have e2 := h.mp e; have := cr_lt.mp c_10; omega)).symm), rfl, rfl⟩
    · refine ce_iconst (v := nI (1)) dX8_in_13 (by decide) ?_
      refine ce_goto (tgt := 18) dX8_in_14 (by decide) ?_
      refine ce_iret dX8_in_18 rfl (by first | rfl | decide | assumption) (by decide) (by decide) ?_
      exact ⟨congrArg (fun z => some (Value.int z)) ((if_pos (h.mpr ⟨by have := mt cr_lt.mpr c_3; omega, by have := mt cr_lt.mpr c_10; omega⟩)).symm), rfl, rfl⟩
set_option maxHeartbeats 2000000 in
set_option maxRecDepth 20000 in
theorem w_X8_allOf0 {σ : ce_S} {g : ce_D} (r : Nat) (F : ce_V) (O : Nat → Int32) (hA : ce_LA σ 10 r 189) (hr : cr_row (g r) F O) (w : Nat) (h6 : F 0 0 ≤ 6) (hw : w < 6) : ∀ (n9 i : Nat), F 0 0 - i < n9 → i ≤ F 0 0 → ce_WP (ce_r 2) mX8_allOf 0 0 5 [some (.ref (r)), some (.int (nI (w))), some (.int (nI (0))), some (.int (nI (ce_sum (fun m => F 7 (m * 6 + w)) i))), some (.int (nI (i)))] [] σ g (ce_pv (nI (ce_sum (fun m => F 7 (m * 6 + w)) (F 0 0))) σ g) ce_no := by
  intro n9
  induction n9 with
  | zero =>
    intros
    omega
  | succ n9 ih =>
    intro i hm hi
    refine ce_iload dX8_allOf_5 rfl ?_
    refine ce_aload_n dX8_allOf_7 rfl ?_
    refine ce_iconst (v := nI (0)) dX8_allOf_8 (by decide) ?_
    refine ce_ialdv dX8_allOf_9 (hA).1 rfl (hA).2 (by omega) (by decide) ((hr).c0) ?_
    refine ce_icmp_geN (tgt := 32) dX8_allOf_10 (by decide) rfl rfl (by omega) (by omega) (fun c_10 => ?_) (fun c_10 => ?_)
    · refine ce_iload_n dX8_allOf_32 rfl ?_
      refine ce_iret dX8_allOf_33 rfl rfl (by decide) (by decide) ?_
      exact ⟨congrArg (fun z => some (Value.int z)) (by rw [show i = F 0 0 by omega]), rfl, rfl⟩
    · refine ce_iload_n dX8_allOf_13 rfl ?_
      refine ce_aload_n dX8_allOf_14 rfl ?_
      refine ce_iload dX8_allOf_15 rfl ?_
      refine ce_iload_n dX8_allOf_17 rfl ?_
      refine ce_cSp dX8_allOf_18 hX8_hold kRX8_54 (m_X8_hold (i) (w)) rfl rfl (by decide) (Nat.le_of_ble_eq_true rfl) ?_
      refine ce_iload_n dX8_allOf_21 rfl ?_
      refine ce_iadd (z := nI (81 + 18 * i + 3 * w + 0)) dX8_allOf_22 (nI_add _ _) ?_
      refine ce_ialdv dX8_allOf_23 (hA).1 rfl (hA).2 (by omega) (by decide) ((hr).h0 (by omega) (by omega)) ?_
      refine ce_iadd (z := nI (ce_sum (fun m => F 7 (m * 6 + w)) (i + 1))) dX8_allOf_24 (nI_add _ _) ?_
      refine ce_istore_n dX8_allOf_25 (Nat.le_of_ble_eq_true rfl) rfl ?_
      refine ce_iinc (v := nI (i + 1)) dX8_allOf_26 rfl (ce_inc1 _) (Nat.le_of_ble_eq_true rfl) rfl ?_
      refine ce_goto (tgt := 5) dX8_allOf_29 (by decide) ?_
      exact ih (i + 1) (by omega) (by omega)
set_option maxHeartbeats 2000000 in
set_option maxRecDepth 20000 in
theorem m_X8_allOf0 {σ : ce_S} {g : ce_D} (r : Nat) (F : ce_V) (O : Nat → Int32) (hA : ce_LA σ 10 r 189) (hr : cr_row (g r) F O) (w : Nat) (h6 : F 0 0 ≤ 6) (hw : w < 6) : ce_CT (ce_r 2) mX8_allOf [.ref (r), .int (nI (w)), .int (nI (0))] σ g (ce_pv (nI (ce_sum (fun m => F 7 (m * 6 + w)) (F 0 0))) σ g) ce_no := by
  refine ce_enter (by decide) rfl (Nat.le_of_ble_eq_true rfl) (L := [some (.ref (r)), some (.int (nI (w))), some (.int (nI (0))), none, none]) rfl ?_
  refine ce_iconst (v := nI (0)) dX8_allOf_0 (by decide) ?_
  refine ce_istore_n dX8_allOf_1 (Nat.le_of_ble_eq_true rfl) rfl ?_
  refine ce_iconst (v := nI (0)) dX8_allOf_2 (by decide) ?_
  refine ce_istore dX8_allOf_3 (Nat.le_of_ble_eq_true rfl) rfl ?_
  exact w_X8_allOf0 r F O hA hr w h6 hw (F 0 0 + 1) 0 (by omega) (by omega)
set_option maxHeartbeats 2000000 in
set_option maxRecDepth 20000 in
theorem w_X8_allOf1 {σ : ce_S} {g : ce_D} (r : Nat) (F : ce_V) (O : Nat → Int32) (hA : ce_LA σ 10 r 189) (hr : cr_row (g r) F O) (w : Nat) (h6 : F 0 0 ≤ 6) (hw : w < 6) : ∀ (n9 i : Nat), F 0 0 - i < n9 → i ≤ F 0 0 → ce_WP (ce_r 2) mX8_allOf 0 0 5 [some (.ref (r)), some (.int (nI (w))), some (.int (nI (1))), some (.int (nI (ce_sum (fun m => F 8 (m * 6 + w)) i))), some (.int (nI (i)))] [] σ g (ce_pv (nI (ce_sum (fun m => F 8 (m * 6 + w)) (F 0 0))) σ g) ce_no := by
  intro n9
  induction n9 with
  | zero =>
    intros
    omega
  | succ n9 ih =>
    intro i hm hi
    refine ce_iload dX8_allOf_5 rfl ?_
    refine ce_aload_n dX8_allOf_7 rfl ?_
    refine ce_iconst (v := nI (0)) dX8_allOf_8 (by decide) ?_
    refine ce_ialdv dX8_allOf_9 (hA).1 rfl (hA).2 (by omega) (by decide) ((hr).c0) ?_
    refine ce_icmp_geN (tgt := 32) dX8_allOf_10 (by decide) rfl rfl (by omega) (by omega) (fun c_10 => ?_) (fun c_10 => ?_)
    · refine ce_iload_n dX8_allOf_32 rfl ?_
      refine ce_iret dX8_allOf_33 rfl rfl (by decide) (by decide) ?_
      exact ⟨congrArg (fun z => some (Value.int z)) (by rw [show i = F 0 0 by omega]), rfl, rfl⟩
    · refine ce_iload_n dX8_allOf_13 rfl ?_
      refine ce_aload_n dX8_allOf_14 rfl ?_
      refine ce_iload dX8_allOf_15 rfl ?_
      refine ce_iload_n dX8_allOf_17 rfl ?_
      refine ce_cSp dX8_allOf_18 hX8_hold kRX8_54 (m_X8_hold (i) (w)) rfl rfl (by decide) (Nat.le_of_ble_eq_true rfl) ?_
      refine ce_iload_n dX8_allOf_21 rfl ?_
      refine ce_iadd (z := nI (81 + 18 * i + 3 * w + 1)) dX8_allOf_22 (nI_add _ _) ?_
      refine ce_ialdv dX8_allOf_23 (hA).1 rfl (hA).2 (by omega) (by decide) ((hr).h1 (by omega) (by omega)) ?_
      refine ce_iadd (z := nI (ce_sum (fun m => F 8 (m * 6 + w)) (i + 1))) dX8_allOf_24 (nI_add _ _) ?_
      refine ce_istore_n dX8_allOf_25 (Nat.le_of_ble_eq_true rfl) rfl ?_
      refine ce_iinc (v := nI (i + 1)) dX8_allOf_26 rfl (ce_inc1 _) (Nat.le_of_ble_eq_true rfl) rfl ?_
      refine ce_goto (tgt := 5) dX8_allOf_29 (by decide) ?_
      exact ih (i + 1) (by omega) (by omega)
set_option maxHeartbeats 2000000 in
set_option maxRecDepth 20000 in
theorem m_X8_allOf1 {σ : ce_S} {g : ce_D} (r : Nat) (F : ce_V) (O : Nat → Int32) (hA : ce_LA σ 10 r 189) (hr : cr_row (g r) F O) (w : Nat) (h6 : F 0 0 ≤ 6) (hw : w < 6) : ce_CT (ce_r 2) mX8_allOf [.ref (r), .int (nI (w)), .int (nI (1))] σ g (ce_pv (nI (ce_sum (fun m => F 8 (m * 6 + w)) (F 0 0))) σ g) ce_no := by
  refine ce_enter (by decide) rfl (Nat.le_of_ble_eq_true rfl) (L := [some (.ref (r)), some (.int (nI (w))), some (.int (nI (1))), none, none]) rfl ?_
  refine ce_iconst (v := nI (0)) dX8_allOf_0 (by decide) ?_
  refine ce_istore_n dX8_allOf_1 (Nat.le_of_ble_eq_true rfl) rfl ?_
  refine ce_iconst (v := nI (0)) dX8_allOf_2 (by decide) ?_
  refine ce_istore dX8_allOf_3 (Nat.le_of_ble_eq_true rfl) rfl ?_
  exact w_X8_allOf1 r F O hA hr w h6 hw (F 0 0 + 1) 0 (by omega) (by omega)
set_option maxHeartbeats 2000000 in
set_option maxRecDepth 20000 in
theorem w_X8_allOf2 {σ : ce_S} {g : ce_D} (r : Nat) (F : ce_V) (O : Nat → Int32) (hA : ce_LA σ 10 r 189) (hr : cr_row (g r) F O) (w : Nat) (h6 : F 0 0 ≤ 6) (hw : w < 6) : ∀ (n9 i : Nat), F 0 0 - i < n9 → i ≤ F 0 0 → ce_WP (ce_r 2) mX8_allOf 0 0 5 [some (.ref (r)), some (.int (nI (w))), some (.int (nI (2))), some (.int (nI (ce_sum (fun m => F 9 (m * 6 + w)) i))), some (.int (nI (i)))] [] σ g (ce_pv (nI (ce_sum (fun m => F 9 (m * 6 + w)) (F 0 0))) σ g) ce_no := by
  intro n9
  induction n9 with
  | zero =>
    intros
    omega
  | succ n9 ih =>
    intro i hm hi
    refine ce_iload dX8_allOf_5 rfl ?_
    refine ce_aload_n dX8_allOf_7 rfl ?_
    refine ce_iconst (v := nI (0)) dX8_allOf_8 (by decide) ?_
    refine ce_ialdv dX8_allOf_9 (hA).1 rfl (hA).2 (by omega) (by decide) ((hr).c0) ?_
    refine ce_icmp_geN (tgt := 32) dX8_allOf_10 (by decide) rfl rfl (by omega) (by omega) (fun c_10 => ?_) (fun c_10 => ?_)
    · refine ce_iload_n dX8_allOf_32 rfl ?_
      refine ce_iret dX8_allOf_33 rfl rfl (by decide) (by decide) ?_
      exact ⟨congrArg (fun z => some (Value.int z)) (by rw [show i = F 0 0 by omega]), rfl, rfl⟩
    · refine ce_iload_n dX8_allOf_13 rfl ?_
      refine ce_aload_n dX8_allOf_14 rfl ?_
      refine ce_iload dX8_allOf_15 rfl ?_
      refine ce_iload_n dX8_allOf_17 rfl ?_
      refine ce_cSp dX8_allOf_18 hX8_hold kRX8_54 (m_X8_hold (i) (w)) rfl rfl (by decide) (Nat.le_of_ble_eq_true rfl) ?_
      refine ce_iload_n dX8_allOf_21 rfl ?_
      refine ce_iadd (z := nI (81 + 18 * i + 3 * w + 2)) dX8_allOf_22 (nI_add _ _) ?_
      refine ce_ialdv dX8_allOf_23 (hA).1 rfl (hA).2 (by omega) (by decide) ((hr).h2 (by omega) (by omega)) ?_
      refine ce_iadd (z := nI (ce_sum (fun m => F 9 (m * 6 + w)) (i + 1))) dX8_allOf_24 (nI_add _ _) ?_
      refine ce_istore_n dX8_allOf_25 (Nat.le_of_ble_eq_true rfl) rfl ?_
      refine ce_iinc (v := nI (i + 1)) dX8_allOf_26 rfl (ce_inc1 _) (Nat.le_of_ble_eq_true rfl) rfl ?_
      refine ce_goto (tgt := 5) dX8_allOf_29 (by decide) ?_
      exact ih (i + 1) (by omega) (by omega)
set_option maxHeartbeats 2000000 in
set_option maxRecDepth 20000 in
theorem m_X8_allOf2 {σ : ce_S} {g : ce_D} (r : Nat) (F : ce_V) (O : Nat → Int32) (hA : ce_LA σ 10 r 189) (hr : cr_row (g r) F O) (w : Nat) (h6 : F 0 0 ≤ 6) (hw : w < 6) : ce_CT (ce_r 2) mX8_allOf [.ref (r), .int (nI (w)), .int (nI (2))] σ g (ce_pv (nI (ce_sum (fun m => F 9 (m * 6 + w)) (F 0 0))) σ g) ce_no := by
  refine ce_enter (by decide) rfl (Nat.le_of_ble_eq_true rfl) (L := [some (.ref (r)), some (.int (nI (w))), some (.int (nI (2))), none, none]) rfl ?_
  refine ce_iconst (v := nI (0)) dX8_allOf_0 (by decide) ?_
  refine ce_istore_n dX8_allOf_1 (Nat.le_of_ble_eq_true rfl) rfl ?_
  refine ce_iconst (v := nI (0)) dX8_allOf_2 (by decide) ?_
  refine ce_istore dX8_allOf_3 (Nat.le_of_ble_eq_true rfl) rfl ?_
  exact w_X8_allOf2 r F O hA hr w h6 hw (F 0 0 + 1) 0 (by omega) (by omega)
set_option maxHeartbeats 2000000 in
set_option maxRecDepth 20000 in
theorem w_X8_ownedBy {σ : ce_S} {g : ce_D} (r : Nat) (F : ce_V) (O : Nat → Int32) (hA : ce_LA σ 10 r 189) (hr : cr_row (g r) F O) (m : Nat) (h6 : F 0 1 ≤ 6) (hm6 : m < 6) : ∀ (n9 i : Nat), F 0 1 - i < n9 → i ≤ F 0 1 → ce_WP (ce_r 2) mX8_ownedBy 0 0 4 [some (.ref (r)), some (.int (nI (m))), some (.int (nI (ce_sum (fun w => F 9 (m * 6 + w)) i))), some (.int (nI (i)))] [] σ g (ce_pv (nI (ce_sum (fun w => F 9 (m * 6 + w)) (F 0 1))) σ g) ce_no := by
  intro n9
  induction n9 with
  | zero =>
    intros
    omega
  | succ n9 ih =>
    intro i hm hi
    refine ce_iload_n dX8_ownedBy_4 rfl ?_
    refine ce_aload_n dX8_ownedBy_5 rfl ?_
    refine ce_iconst (v := nI (1)) dX8_ownedBy_6 (by decide) ?_
    refine ce_ialdv dX8_ownedBy_7 (hA).1 rfl (hA).2 (by omega) (by decide) ((hr).c1) ?_
    refine ce_icmp_geN (tgt := 29) dX8_ownedBy_8 (by decide) rfl rfl (by omega) (by omega) (fun c_8 => ?_) (fun c_8 => ?_)
    · refine ce_iload_n dX8_ownedBy_29 rfl ?_
      refine ce_iret dX8_ownedBy_30 rfl rfl (by decide) (by decide) ?_
      exact ⟨congrArg (fun z => some (Value.int z)) (by rw [show i = F 0 1 by omega]), rfl, rfl⟩
    · refine ce_iload_n dX8_ownedBy_11 rfl ?_
      refine ce_aload_n dX8_ownedBy_12 rfl ?_
      refine ce_iload_n dX8_ownedBy_13 rfl ?_
      refine ce_iload_n dX8_ownedBy_14 rfl ?_
      refine ce_cSp dX8_ownedBy_15 hX8_hold kRX8_54 (m_X8_hold (m) (i)) rfl rfl (by decide) (Nat.le_of_ble_eq_true rfl) ?_
      refine ce_iconst (v := nI (2)) dX8_ownedBy_18 (by decide) ?_
      refine ce_iadd (z := nI (81 + 18 * m + 3 * i + 2)) dX8_ownedBy_19 (nI_add _ _) ?_
      refine ce_ialdv dX8_ownedBy_20 (hA).1 rfl (hA).2 (by omega) (by decide) ((hr).h2 (by omega) (by omega)) ?_
      refine ce_iadd (z := nI (ce_sum (fun w => F 9 (m * 6 + w)) (i + 1))) dX8_ownedBy_21 (nI_add _ _) ?_
      refine ce_istore_n dX8_ownedBy_22 (Nat.le_of_ble_eq_true rfl) rfl ?_
      refine ce_iinc (v := nI (i + 1)) dX8_ownedBy_23 rfl (ce_inc1 _) (Nat.le_of_ble_eq_true rfl) rfl ?_
      refine ce_goto (tgt := 4) dX8_ownedBy_26 (by decide) ?_
      exact ih (i + 1) (by omega) (by omega)
set_option maxHeartbeats 2000000 in
set_option maxRecDepth 20000 in
theorem m_X8_ownedBy {σ : ce_S} {g : ce_D} (r : Nat) (F : ce_V) (O : Nat → Int32) (hA : ce_LA σ 10 r 189) (hr : cr_row (g r) F O) (m : Nat) (h6 : F 0 1 ≤ 6) (hm6 : m < 6) : ce_CT (ce_r 2) mX8_ownedBy [.ref (r), .int (nI (m))] σ g (ce_pv (nI (ce_sum (fun w => F 9 (m * 6 + w)) (F 0 1))) σ g) ce_no := by
  refine ce_enter (by decide) rfl (Nat.le_of_ble_eq_true rfl) (L := [some (.ref (r)), some (.int (nI (m))), none, none]) rfl ?_
  refine ce_iconst (v := nI (0)) dX8_ownedBy_0 (by decide) ?_
  refine ce_istore_n dX8_ownedBy_1 (Nat.le_of_ble_eq_true rfl) rfl ?_
  refine ce_iconst (v := nI (0)) dX8_ownedBy_2 (by decide) ?_
  refine ce_istore_n dX8_ownedBy_3 (Nat.le_of_ble_eq_true rfl) rfl ?_
  exact w_X8_ownedBy r F O hA hr m h6 hm6 (F 0 1 + 1) 0 (by omega) (by omega)
set_option maxHeartbeats 2000000 in
set_option maxRecDepth 20000 in
theorem w_X8_cellar {σ : ce_S} {g : ce_D} (r : Nat) (F : ce_V) (O : Nat → Int32) (hA : ce_LA σ 10 r 189) (hr : cr_row (g r) F O) (h8 : F 0 2 ≤ 8) : ∀ (n9 i : Nat), F 0 2 - i < n9 → i ≤ F 0 2 → ce_WP (ce_r 2) mX8_cellar 0 0 4 [some (.ref (r)), some (.int (nI (ce_sum (F 12) i))), some (.int (nI (i)))] [] σ g (ce_pv (nI (ce_sum (F 12) (F 0 2))) σ g) ce_no := by
  intro n9
  induction n9 with
  | zero =>
    intros
    omega
  | succ n9 ih =>
    intro i hm hi
    refine ce_iload_n dX8_cellar_4 rfl ?_
    refine ce_aload_n dX8_cellar_5 rfl ?_
    refine ce_iconst (v := nI (2)) dX8_cellar_6 (by decide) ?_
    refine ce_ialdv dX8_cellar_7 (hA).1 rfl (hA).2 (by omega) (by decide) ((hr).c2) ?_
    refine ce_icmp_geN (tgt := 28) dX8_cellar_8 (by decide) rfl rfl (by omega) (by omega) (fun c_8 => ?_) (fun c_8 => ?_)
    · refine ce_iload_n dX8_cellar_28 rfl ?_
      refine ce_iret dX8_cellar_29 rfl rfl (by decide) (by decide) ?_
      exact ⟨congrArg (fun z => some (Value.int z)) (by rw [show i = F 0 2 by omega]), rfl, rfl⟩
    · refine ce_iload_n dX8_cellar_11 rfl ?_
      refine ce_aload_n dX8_cellar_12 rfl ?_
      refine ce_iload_n dX8_cellar_13 rfl ?_
      refine ce_cSp dX8_cellar_14 hX8_binAt kRX8_58 (m_X8_binAt (i)) rfl rfl (by decide) (Nat.le_of_ble_eq_true rfl) ?_
      refine ce_iconst (v := nI (2)) dX8_cellar_17 (by decide) ?_
      refine ce_iadd (z := nI (57 + 3 * i + 2)) dX8_cellar_18 (nI_add _ _) ?_
      refine ce_ialdv dX8_cellar_19 (hA).1 rfl (hA).2 (by omega) (by decide) ((hr).b2 (by omega)) ?_
      refine ce_iadd (z := nI (ce_sum (F 12) (i + 1))) dX8_cellar_20 (nI_add _ _) ?_
      refine ce_istore_n dX8_cellar_21 (Nat.le_of_ble_eq_true rfl) rfl ?_
      refine ce_iinc (v := nI (i + 1)) dX8_cellar_22 rfl (ce_inc1 _) (Nat.le_of_ble_eq_true rfl) rfl ?_
      refine ce_goto (tgt := 4) dX8_cellar_25 (by decide) ?_
      exact ih (i + 1) (by omega) (by omega)
set_option maxHeartbeats 2000000 in
set_option maxRecDepth 20000 in
theorem m_X8_cellar {σ : ce_S} {g : ce_D} (r : Nat) (F : ce_V) (O : Nat → Int32) (hA : ce_LA σ 10 r 189) (hr : cr_row (g r) F O) (h8 : F 0 2 ≤ 8) : ce_CT (ce_r 2) mX8_cellar [.ref (r)] σ g (ce_pv (nI (ce_sum (F 12) (F 0 2))) σ g) ce_no := by
  refine ce_enter (by decide) rfl (Nat.le_of_ble_eq_true rfl) (L := [some (.ref (r)), none, none]) rfl ?_
  refine ce_iconst (v := nI (0)) dX8_cellar_0 (by decide) ?_
  refine ce_istore_n dX8_cellar_1 (Nat.le_of_ble_eq_true rfl) rfl ?_
  refine ce_iconst (v := nI (0)) dX8_cellar_2 (by decide) ?_
  refine ce_istore_n dX8_cellar_3 (Nat.le_of_ble_eq_true rfl) rfl ?_
  exact w_X8_cellar r F O hA hr h8 (F 0 2 + 1) 0 (by omega) (by omega)
set_option maxHeartbeats 2000000 in
set_option maxRecDepth 20000 in
theorem w_X8_ofWine2 {σ : ce_S} {g : ce_D} (r : Nat) (F : ce_V) (O : Nat → Int32) (hA : ce_LA σ 10 r 189) (hr : cr_row (g r) F O) (h6 : F 0 1 ≤ 6) : ∀ (n9 i : Nat), F 0 1 - i < n9 → i ≤ F 0 1 → ce_WP (ce_r 2) mX8_ofWine 0 0 4 [some (.ref (r)), some (.int (nI (2))), some (.int (nI (ce_sum (F 4) i))), some (.int (nI (i)))] [] σ g (ce_pv (nI (ce_sum (F 4) (F 0 1))) σ g) ce_no := by
  intro n9
  induction n9 with
  | zero =>
    intros
    omega
  | succ n9 ih =>
    intro i hm hi
    refine ce_iload_n dX8_ofWine_4 rfl ?_
    refine ce_aload_n dX8_ofWine_5 rfl ?_
    refine ce_iconst (v := nI (1)) dX8_ofWine_6 (by decide) ?_
    refine ce_ialdv dX8_ofWine_7 (hA).1 rfl (hA).2 (by omega) (by decide) ((hr).c1) ?_
    refine ce_icmp_geN (tgt := 28) dX8_ofWine_8 (by decide) rfl rfl (by omega) (by omega) (fun c_8 => ?_) (fun c_8 => ?_)
    · refine ce_iload_n dX8_ofWine_28 rfl ?_
      refine ce_iret dX8_ofWine_29 rfl rfl (by decide) (by decide) ?_
      exact ⟨congrArg (fun z => some (Value.int z)) (by rw [show i = F 0 1 by omega]), rfl, rfl⟩
    · refine ce_iload_n dX8_ofWine_11 rfl ?_
      refine ce_aload_n dX8_ofWine_12 rfl ?_
      refine ce_iload_n dX8_ofWine_13 rfl ?_
      refine ce_cSp dX8_ofWine_14 hX8_wineAt kRX8_62 (m_X8_wineAt (i)) rfl rfl (by decide) (Nat.le_of_ble_eq_true rfl) ?_
      refine ce_iload_n dX8_ofWine_17 rfl ?_
      refine ce_iadd (z := nI (21 + 6 * i + 2)) dX8_ofWine_18 (nI_add _ _) ?_
      refine ce_ialdv dX8_ofWine_19 (hA).1 rfl (hA).2 (by omega) (by decide) ((hr).w2 (by omega)) ?_
      refine ce_iadd (z := nI (ce_sum (F 4) (i + 1))) dX8_ofWine_20 (nI_add _ _) ?_
      refine ce_istore_n dX8_ofWine_21 (Nat.le_of_ble_eq_true rfl) rfl ?_
      refine ce_iinc (v := nI (i + 1)) dX8_ofWine_22 rfl (ce_inc1 _) (Nat.le_of_ble_eq_true rfl) rfl ?_
      refine ce_goto (tgt := 4) dX8_ofWine_25 (by decide) ?_
      exact ih (i + 1) (by omega) (by omega)
set_option maxHeartbeats 2000000 in
set_option maxRecDepth 20000 in
theorem m_X8_ofWine2 {σ : ce_S} {g : ce_D} (r : Nat) (F : ce_V) (O : Nat → Int32) (hA : ce_LA σ 10 r 189) (hr : cr_row (g r) F O) (h6 : F 0 1 ≤ 6) : ce_CT (ce_r 2) mX8_ofWine [.ref (r), .int (nI (2))] σ g (ce_pv (nI (ce_sum (F 4) (F 0 1))) σ g) ce_no := by
  refine ce_enter (by decide) rfl (Nat.le_of_ble_eq_true rfl) (L := [some (.ref (r)), some (.int (nI (2))), none, none]) rfl ?_
  refine ce_iconst (v := nI (0)) dX8_ofWine_0 (by decide) ?_
  refine ce_istore_n dX8_ofWine_1 (Nat.le_of_ble_eq_true rfl) rfl ?_
  refine ce_iconst (v := nI (0)) dX8_ofWine_2 (by decide) ?_
  refine ce_istore_n dX8_ofWine_3 (Nat.le_of_ble_eq_true rfl) rfl ?_
  exact w_X8_ofWine2 r F O hA hr h6 (F 0 1 + 1) 0 (by omega) (by omega)
set_option maxHeartbeats 2000000 in
set_option maxRecDepth 20000 in
theorem w_X8_ofWine4 {σ : ce_S} {g : ce_D} (r : Nat) (F : ce_V) (O : Nat → Int32) (hA : ce_LA σ 10 r 189) (hr : cr_row (g r) F O) (h6 : F 0 1 ≤ 6) : ∀ (n9 i : Nat), F 0 1 - i < n9 → i ≤ F 0 1 → ce_WP (ce_r 2) mX8_ofWine 0 0 4 [some (.ref (r)), some (.int (nI (4))), some (.int (nI (ce_sum (F 15) i))), some (.int (nI (i)))] [] σ g (ce_pv (nI (ce_sum (F 15) (F 0 1))) σ g) ce_no := by
  intro n9
  induction n9 with
  | zero =>
    intros
    omega
  | succ n9 ih =>
    intro i hm hi
    refine ce_iload_n dX8_ofWine_4 rfl ?_
    refine ce_aload_n dX8_ofWine_5 rfl ?_
    refine ce_iconst (v := nI (1)) dX8_ofWine_6 (by decide) ?_
    refine ce_ialdv dX8_ofWine_7 (hA).1 rfl (hA).2 (by omega) (by decide) ((hr).c1) ?_
    refine ce_icmp_geN (tgt := 28) dX8_ofWine_8 (by decide) rfl rfl (by omega) (by omega) (fun c_8 => ?_) (fun c_8 => ?_)
    · refine ce_iload_n dX8_ofWine_28 rfl ?_
      refine ce_iret dX8_ofWine_29 rfl rfl (by decide) (by decide) ?_
      exact ⟨congrArg (fun z => some (Value.int z)) (by rw [show i = F 0 1 by omega]), rfl, rfl⟩
    · refine ce_iload_n dX8_ofWine_11 rfl ?_
      refine ce_aload_n dX8_ofWine_12 rfl ?_
      refine ce_iload_n dX8_ofWine_13 rfl ?_
      refine ce_cSp dX8_ofWine_14 hX8_wineAt kRX8_62 (m_X8_wineAt (i)) rfl rfl (by decide) (Nat.le_of_ble_eq_true rfl) ?_
      refine ce_iload_n dX8_ofWine_17 rfl ?_
      refine ce_iadd (z := nI (21 + 6 * i + 4)) dX8_ofWine_18 (nI_add _ _) ?_
      refine ce_ialdv dX8_ofWine_19 (hA).1 rfl (hA).2 (by omega) (by decide) ((hr).w4 (by omega)) ?_
      refine ce_iadd (z := nI (ce_sum (F 15) (i + 1))) dX8_ofWine_20 (nI_add _ _) ?_
      refine ce_istore_n dX8_ofWine_21 (Nat.le_of_ble_eq_true rfl) rfl ?_
      refine ce_iinc (v := nI (i + 1)) dX8_ofWine_22 rfl (ce_inc1 _) (Nat.le_of_ble_eq_true rfl) rfl ?_
      refine ce_goto (tgt := 4) dX8_ofWine_25 (by decide) ?_
      exact ih (i + 1) (by omega) (by omega)
set_option maxHeartbeats 2000000 in
set_option maxRecDepth 20000 in
theorem m_X8_ofWine4 {σ : ce_S} {g : ce_D} (r : Nat) (F : ce_V) (O : Nat → Int32) (hA : ce_LA σ 10 r 189) (hr : cr_row (g r) F O) (h6 : F 0 1 ≤ 6) : ce_CT (ce_r 2) mX8_ofWine [.ref (r), .int (nI (4))] σ g (ce_pv (nI (ce_sum (F 15) (F 0 1))) σ g) ce_no := by
  refine ce_enter (by decide) rfl (Nat.le_of_ble_eq_true rfl) (L := [some (.ref (r)), some (.int (nI (4))), none, none]) rfl ?_
  refine ce_iconst (v := nI (0)) dX8_ofWine_0 (by decide) ?_
  refine ce_istore_n dX8_ofWine_1 (Nat.le_of_ble_eq_true rfl) rfl ?_
  refine ce_iconst (v := nI (0)) dX8_ofWine_2 (by decide) ?_
  refine ce_istore_n dX8_ofWine_3 (Nat.le_of_ble_eq_true rfl) rfl ?_
  exact w_X8_ofWine4 r F O hA hr h6 (F 0 1 + 1) 0 (by omega) (by omega)
set_option maxHeartbeats 2000000 in
set_option maxRecDepth 20000 in
theorem w_X8_ofWine5 {σ : ce_S} {g : ce_D} (r : Nat) (F : ce_V) (O : Nat → Int32) (hA : ce_LA σ 10 r 189) (hr : cr_row (g r) F O) (h6 : F 0 1 ≤ 6) : ∀ (n9 i : Nat), F 0 1 - i < n9 → i ≤ F 0 1 → ce_WP (ce_r 2) mX8_ofWine 0 0 4 [some (.ref (r)), some (.int (nI (5))), some (.int (nI (ce_sum (F 6) i))), some (.int (nI (i)))] [] σ g (ce_pv (nI (ce_sum (F 6) (F 0 1))) σ g) ce_no := by
  intro n9
  induction n9 with
  | zero =>
    intros
    omega
  | succ n9 ih =>
    intro i hm hi
    refine ce_iload_n dX8_ofWine_4 rfl ?_
    refine ce_aload_n dX8_ofWine_5 rfl ?_
    refine ce_iconst (v := nI (1)) dX8_ofWine_6 (by decide) ?_
    refine ce_ialdv dX8_ofWine_7 (hA).1 rfl (hA).2 (by omega) (by decide) ((hr).c1) ?_
    refine ce_icmp_geN (tgt := 28) dX8_ofWine_8 (by decide) rfl rfl (by omega) (by omega) (fun c_8 => ?_) (fun c_8 => ?_)
    · refine ce_iload_n dX8_ofWine_28 rfl ?_
      refine ce_iret dX8_ofWine_29 rfl rfl (by decide) (by decide) ?_
      exact ⟨congrArg (fun z => some (Value.int z)) (by rw [show i = F 0 1 by omega]), rfl, rfl⟩
    · refine ce_iload_n dX8_ofWine_11 rfl ?_
      refine ce_aload_n dX8_ofWine_12 rfl ?_
      refine ce_iload_n dX8_ofWine_13 rfl ?_
      refine ce_cSp dX8_ofWine_14 hX8_wineAt kRX8_62 (m_X8_wineAt (i)) rfl rfl (by decide) (Nat.le_of_ble_eq_true rfl) ?_
      refine ce_iload_n dX8_ofWine_17 rfl ?_
      refine ce_iadd (z := nI (21 + 6 * i + 5)) dX8_ofWine_18 (nI_add _ _) ?_
      refine ce_ialdv dX8_ofWine_19 (hA).1 rfl (hA).2 (by omega) (by decide) ((hr).w5 (by omega)) ?_
      refine ce_iadd (z := nI (ce_sum (F 6) (i + 1))) dX8_ofWine_20 (nI_add _ _) ?_
      refine ce_istore_n dX8_ofWine_21 (Nat.le_of_ble_eq_true rfl) rfl ?_
      refine ce_iinc (v := nI (i + 1)) dX8_ofWine_22 rfl (ce_inc1 _) (Nat.le_of_ble_eq_true rfl) rfl ?_
      refine ce_goto (tgt := 4) dX8_ofWine_25 (by decide) ?_
      exact ih (i + 1) (by omega) (by omega)
set_option maxHeartbeats 2000000 in
set_option maxRecDepth 20000 in
theorem m_X8_ofWine5 {σ : ce_S} {g : ce_D} (r : Nat) (F : ce_V) (O : Nat → Int32) (hA : ce_LA σ 10 r 189) (hr : cr_row (g r) F O) (h6 : F 0 1 ≤ 6) : ce_CT (ce_r 2) mX8_ofWine [.ref (r), .int (nI (5))] σ g (ce_pv (nI (ce_sum (F 6) (F 0 1))) σ g) ce_no := by
  refine ce_enter (by decide) rfl (Nat.le_of_ble_eq_true rfl) (L := [some (.ref (r)), some (.int (nI (5))), none, none]) rfl ?_
  refine ce_iconst (v := nI (0)) dX8_ofWine_0 (by decide) ?_
  refine ce_istore_n dX8_ofWine_1 (Nat.le_of_ble_eq_true rfl) rfl ?_
  refine ce_iconst (v := nI (0)) dX8_ofWine_2 (by decide) ?_
  refine ce_istore_n dX8_ofWine_3 (Nat.le_of_ble_eq_true rfl) rfl ?_
  exact w_X8_ofWine5 r F O hA hr h6 (F 0 1 + 1) 0 (by omega) (by omega)
set_option maxHeartbeats 2000000 in
set_option maxRecDepth 20000 in
theorem m_X8_roomIn {σ : ce_S} {g : ce_D} (r : Nat) (F : ce_V) (O : Nat → Int32) (hA : ce_LA σ 10 r 189) (hr : cr_row (g r) F O) (b : Nat) (hb : b < 8) (hle : F 12 b ≤ F 11 b) : ce_CT (ce_r 1) mX8_roomIn [.ref (r), .int (nI (b))] σ g (ce_pv (nI (F 11 b - F 12 b)) σ g) ce_no := by
  refine ce_enter (by decide) rfl (Nat.le_of_ble_eq_true rfl) (L := [some (.ref (r)), some (.int (nI (b)))]) rfl ?_
  refine ce_aload_n dX8_roomIn_0 rfl ?_
  refine ce_iload_n dX8_roomIn_1 rfl ?_
  refine ce_cSp dX8_roomIn_2 hX8_binAt kRX8_58 (m_X8_binAt (b)) rfl rfl (by decide) (Nat.le_of_ble_eq_true rfl) ?_
  refine ce_ialdv dX8_roomIn_5 (hA).1 rfl (hA).2 (by omega) (by decide) ((hr).b0 (by omega)) ?_
  refine ce_aload_n dX8_roomIn_6 rfl ?_
  refine ce_iload_n dX8_roomIn_7 rfl ?_
  refine ce_cSp dX8_roomIn_8 hX8_binAt kRX8_58 (m_X8_binAt (b)) rfl rfl (by decide) (Nat.le_of_ble_eq_true rfl) ?_
  refine ce_iconst (v := nI (2)) dX8_roomIn_11 (by decide) ?_
  refine ce_iadd (z := nI (57 + 3 * b + 2)) dX8_roomIn_12 (nI_add _ _) ?_
  refine ce_ialdv dX8_roomIn_13 (hA).1 rfl (hA).2 (by omega) (by decide) ((hr).b2 (by omega)) ?_
  refine ce_isub (z := nI (F 11 b - (F 12 b))) dX8_roomIn_14 (pk_sub (by omega)) ?_
  refine ce_iret dX8_roomIn_15 rfl rfl (by decide) (by decide) ?_
  exact ⟨rfl, rfl, rfl⟩
set_option maxHeartbeats 2000000 in
set_option maxRecDepth 20000 in
theorem m_X8_hasWine {σ : ce_S} {g : ce_D} (r : Nat) (F : ce_V) (O : Nat → Int32) (hA : ce_LA σ 10 r 189) (hr : cr_row (g r) F O) (b w : Nat) (hb : b < 8) (hw : w < 6) (hk : kv_rk F) : ce_CT (ce_r 1) mX8_hasWine [.ref (r), .int (nI (b)), .int (nI (w))] σ g (ce_pv (if 0 < F 12 b ∧ F 13 b = w + 1 then 1 else 0) σ g) ce_no := by
  have h12 := hk.2.1 b
  have h13 := hk.2.2.2.1 b
  refine ce_enter (by decide) rfl (Nat.le_of_ble_eq_true rfl) (L := [some (.ref (r)), some (.int (nI (b))), some (.int (nI (w)))]) rfl ?_
  refine ce_aload_n dX8_hasWine_0 rfl ?_
  refine ce_iload_n dX8_hasWine_1 rfl ?_
  refine ce_cSp dX8_hasWine_2 hX8_binAt kRX8_58 (m_X8_binAt (b)) rfl rfl (by decide) (Nat.le_of_ble_eq_true rfl) ?_
  refine ce_iconst (v := nI (2)) dX8_hasWine_5 (by decide) ?_
  refine ce_iadd (z := nI (57 + 3 * b + 2)) dX8_hasWine_6 (nI_add _ _) ?_
  refine ce_ialdv dX8_hasWine_7 (hA).1 rfl (hA).2 (by omega) (by decide) ((hr).b2 (by omega)) ?_
  refine ce_if_leN (tgt := 29) dX8_hasWine_8 (by decide) rfl (by omega) (fun c_8 => ?_) (fun c_8 => ?_)
  · refine ce_iconst (v := nI (0)) dX8_hasWine_29 (by decide) ?_
    refine ce_iret dX8_hasWine_30 rfl (by first | rfl | decide | assumption) (by decide) (by decide) ?_
    exact ⟨congrArg (fun z => some (Value.int z)) ((if_neg (by omega)).symm), rfl, rfl⟩
  · have h13 := h13 (by omega)
    refine ce_aload_n dX8_hasWine_11 rfl ?_
    refine ce_iload_n dX8_hasWine_12 rfl ?_
    refine ce_cSp dX8_hasWine_13 hX8_binAt kRX8_58 (m_X8_binAt (b)) rfl rfl (by decide) (Nat.le_of_ble_eq_true rfl) ?_
    refine ce_iconst (v := nI (1)) dX8_hasWine_16 (by decide) ?_
    refine ce_iadd (z := nI (57 + 3 * b + 1)) dX8_hasWine_17 (nI_add _ _) ?_
    refine ce_ialdv dX8_hasWine_18 (hA).1 rfl (hA).2 (by omega) (by decide) ((hr).b1 (by omega)) ?_
    refine ce_iload_n dX8_hasWine_19 rfl ?_
    refine ce_iconst (v := nI (1)) dX8_hasWine_20 (by decide) ?_
    refine ce_iadd (z := nI (w + 1)) dX8_hasWine_21 (nI_add _ _) ?_
    refine ce_icmp_neN (tgt := 29) dX8_hasWine_22 (by decide) rfl rfl (by omega) (by omega) (fun c_22 => ?_) (fun c_22 => ?_)
    · refine ce_iconst (v := nI (0)) dX8_hasWine_29 (by decide) ?_
      refine ce_iret dX8_hasWine_30 rfl (by first | rfl | decide | assumption) (by decide) (by decide) ?_
      exact ⟨congrArg (fun z => some (Value.int z)) ((if_neg (by omega)).symm), rfl, rfl⟩
    · refine ce_iconst (v := nI (1)) dX8_hasWine_25 (by decide) ?_
      refine ce_goto (tgt := 30) dX8_hasWine_26 (by decide) ?_
      refine ce_iret dX8_hasWine_30 rfl (by first | rfl | decide | assumption) (by decide) (by decide) ?_
      exact ⟨congrArg (fun z => some (Value.int z)) ((if_pos (by omega)).symm), rfl, rfl⟩
set_option maxHeartbeats 2000000 in
set_option maxRecDepth 20000 in
theorem w_X8_allRoom {σ : ce_S} {g : ce_D} (r : Nat) (F : ce_V) (O : Nat → Int32) (hA : ce_LA σ 10 r 189) (hr : cr_row (g r) F O) (h8 : F 0 2 ≤ 8) (hk : kv_rk F) : ∀ (n9 i : Nat), F 0 2 - i < n9 → i ≤ F 0 2 → ce_WP (ce_r 2) mX8_allRoom 0 0 4 [some (.ref (r)), some (.int (nI (ce_sum (fun b => F 11 b - F 12 b) i))), some (.int (nI (i)))] [] σ g (ce_pv (nI (ce_sum (fun b => F 11 b - F 12 b) (F 0 2))) σ g) ce_no := by
  intro n9
  induction n9 with
  | zero =>
    intros
    omega
  | succ n9 ih =>
    intro i hm hi
    have h12 := hk.2.1 i
    refine ce_iload_n dX8_allRoom_4 rfl ?_
    refine ce_aload_n dX8_allRoom_5 rfl ?_
    refine ce_iconst (v := nI (2)) dX8_allRoom_6 (by decide) ?_
    refine ce_ialdv dX8_allRoom_7 (hA).1 rfl (hA).2 (by omega) (by decide) ((hr).c2) ?_
    refine ce_icmp_geN (tgt := 25) dX8_allRoom_8 (by decide) rfl rfl (by omega) (by omega) (fun c_8 => ?_) (fun c_8 => ?_)
    · refine ce_iload_n dX8_allRoom_25 rfl ?_
      refine ce_iret dX8_allRoom_26 rfl rfl (by decide) (by decide) ?_
      exact ⟨congrArg (fun z => some (Value.int z)) (by rw [show i = F 0 2 by omega]), rfl, rfl⟩
    · refine ce_iload_n dX8_allRoom_11 rfl ?_
      refine ce_aload_n dX8_allRoom_12 rfl ?_
      refine ce_iload_n dX8_allRoom_13 rfl ?_
      refine ce_cSp dX8_allRoom_14 hX8_roomIn kRX8_70 (m_X8_roomIn (r) F O ⟨(hA).1, (hA).2⟩ hr (i) (by omega) (by first | omega | exact (hk.2.1 _).1)) rfl rfl (by decide) (Nat.le_of_ble_eq_true rfl) ?_
      refine ce_iadd (z := nI (ce_sum (fun b => F 11 b - F 12 b) (i + 1))) dX8_allRoom_17 (nI_add _ _) ?_
      refine ce_istore_n dX8_allRoom_18 (Nat.le_of_ble_eq_true rfl) rfl ?_
      refine ce_iinc (v := nI (i + 1)) dX8_allRoom_19 rfl (ce_inc1 _) (Nat.le_of_ble_eq_true rfl) rfl ?_
      refine ce_goto (tgt := 4) dX8_allRoom_22 (by decide) ?_
      exact ih (i + 1) (by omega) (by omega)
set_option maxHeartbeats 2000000 in
set_option maxRecDepth 20000 in
theorem m_X8_allRoom {σ : ce_S} {g : ce_D} (r : Nat) (F : ce_V) (O : Nat → Int32) (hA : ce_LA σ 10 r 189) (hr : cr_row (g r) F O) (h8 : F 0 2 ≤ 8) (hk : kv_rk F) : ce_CT (ce_r 2) mX8_allRoom [.ref (r)] σ g (ce_pv (nI (ce_sum (fun b => F 11 b - F 12 b) (F 0 2))) σ g) ce_no := by
  refine ce_enter (by decide) rfl (Nat.le_of_ble_eq_true rfl) (L := [some (.ref (r)), none, none]) rfl ?_
  refine ce_iconst (v := nI (0)) dX8_allRoom_0 (by decide) ?_
  refine ce_istore_n dX8_allRoom_1 (Nat.le_of_ble_eq_true rfl) rfl ?_
  refine ce_iconst (v := nI (0)) dX8_allRoom_2 (by decide) ?_
  refine ce_istore_n dX8_allRoom_3 (Nat.le_of_ble_eq_true rfl) rfl ?_
  exact w_X8_allRoom r F O hA hr h8 hk (F 0 2 + 1) 0 (by omega) (by omega)
set_option maxHeartbeats 2000000 in
set_option maxRecDepth 20000 in
theorem w_X8_emptyBins {σ : ce_S} {g : ce_D} (r : Nat) (F : ce_V) (O : Nat → Int32) (hA : ce_LA σ 10 r 189) (hr : cr_row (g r) F O) (h8 : F 0 2 ≤ 8) (hk : kv_rk F) : ∀ (n9 i : Nat), F 0 2 - i < n9 → i ≤ F 0 2 → ce_WP (ce_r 2) mX8_emptyBins 0 0 4 [some (.ref (r)), some (.int (nI (kv_emp F i))), some (.int (nI (i)))] [] σ g (ce_pv (nI (kv_emp F (F 0 2))) σ g) ce_no := by
  intro n9
  induction n9 with
  | zero =>
    intros
    omega
  | succ n9 ih =>
    intro i hm hi
    have h12 := hk.2.1 i
    refine ce_iload_n dX8_emptyBins_4 rfl ?_
    refine ce_aload_n dX8_emptyBins_5 rfl ?_
    refine ce_iconst (v := nI (2)) dX8_emptyBins_6 (by decide) ?_
    refine ce_ialdv dX8_emptyBins_7 (hA).1 rfl (hA).2 (by omega) (by decide) ((hr).c2) ?_
    refine ce_icmp_geN (tgt := 36) dX8_emptyBins_8 (by decide) rfl rfl (by omega) (by omega) (fun c_8 => ?_) (fun c_8 => ?_)
    · refine ce_iload_n dX8_emptyBins_36 rfl ?_
      refine ce_iret dX8_emptyBins_37 rfl rfl (by decide) (by decide) ?_
      exact ⟨congrArg (fun z => some (Value.int z)) (by rw [show i = F 0 2 by omega]), rfl, rfl⟩
    · refine ce_iload_n dX8_emptyBins_11 rfl ?_
      refine ce_aload_n dX8_emptyBins_12 rfl ?_
      refine ce_iload_n dX8_emptyBins_13 rfl ?_
      refine ce_cSp dX8_emptyBins_14 hX8_binAt kRX8_58 (m_X8_binAt (i)) rfl rfl (by decide) (Nat.le_of_ble_eq_true rfl) ?_
      refine ce_iconst (v := nI (2)) dX8_emptyBins_17 (by decide) ?_
      refine ce_iadd (z := nI (57 + 3 * i + 2)) dX8_emptyBins_18 (nI_add _ _) ?_
      refine ce_ialdv dX8_emptyBins_19 (hA).1 rfl (hA).2 (by omega) (by decide) ((hr).b2 (by omega)) ?_
      refine ce_if_neN (tgt := 27) dX8_emptyBins_20 (by decide) rfl (by omega) (fun c_20 => ?_) (fun c_20 => ?_)
      · refine ce_iconst (v := nI (0)) dX8_emptyBins_27 (by decide) ?_
        refine ce_iadd (z := nI (kv_emp F (i + 1))) dX8_emptyBins_28 ((nI_add _ _).trans (congrArg nI (by rw [kv_emp]; split <;> omega))) ?_
        refine ce_istore_n dX8_emptyBins_29 (Nat.le_of_ble_eq_true rfl) rfl ?_
        refine ce_iinc (v := nI (i + 1)) dX8_emptyBins_30 rfl (ce_inc1 _) (Nat.le_of_ble_eq_true rfl) rfl ?_
        refine ce_goto (tgt := 4) dX8_emptyBins_33 (by decide) ?_
        exact ih (i + 1) (by omega) (by omega)
      · refine ce_iconst (v := nI (1)) dX8_emptyBins_23 (by decide) ?_
        refine ce_goto (tgt := 28) dX8_emptyBins_24 (by decide) ?_
        refine ce_iadd (z := nI (kv_emp F (i + 1))) dX8_emptyBins_28 ((nI_add _ _).trans (congrArg nI (by rw [kv_emp]; split <;> omega))) ?_
        refine ce_istore_n dX8_emptyBins_29 (Nat.le_of_ble_eq_true rfl) rfl ?_
        refine ce_iinc (v := nI (i + 1)) dX8_emptyBins_30 rfl (ce_inc1 _) (Nat.le_of_ble_eq_true rfl) rfl ?_
        refine ce_goto (tgt := 4) dX8_emptyBins_33 (by decide) ?_
        exact ih (i + 1) (by omega) (by omega)
set_option maxHeartbeats 2000000 in
set_option maxRecDepth 20000 in
theorem m_X8_emptyBins {σ : ce_S} {g : ce_D} (r : Nat) (F : ce_V) (O : Nat → Int32) (hA : ce_LA σ 10 r 189) (hr : cr_row (g r) F O) (h8 : F 0 2 ≤ 8) (hk : kv_rk F) : ce_CT (ce_r 2) mX8_emptyBins [.ref (r)] σ g (ce_pv (nI (kv_emp F (F 0 2))) σ g) ce_no := by
  refine ce_enter (by decide) rfl (Nat.le_of_ble_eq_true rfl) (L := [some (.ref (r)), none, none]) rfl ?_
  refine ce_iconst (v := nI (0)) dX8_emptyBins_0 (by decide) ?_
  refine ce_istore_n dX8_emptyBins_1 (Nat.le_of_ble_eq_true rfl) rfl ?_
  refine ce_iconst (v := nI (0)) dX8_emptyBins_2 (by decide) ?_
  refine ce_istore_n dX8_emptyBins_3 (Nat.le_of_ble_eq_true rfl) rfl ?_
  exact w_X8_emptyBins r F O hA hr h8 hk (F 0 2 + 1) 0 (by omega) (by omega)
set_option maxHeartbeats 2000000 in
set_option maxRecDepth 20000 in
theorem w_X8_roomOf {σ : ce_S} {g : ce_D} (r : Nat) (F : ce_V) (O : Nat → Int32) (hA : ce_LA σ 10 r 189) (hr : cr_row (g r) F O) (w : Nat) (h8 : F 0 2 ≤ 8) (hw : w < 6) (hk : kv_rk F) : ∀ (n9 i : Nat), F 0 2 - i < n9 → i ≤ F 0 2 → ce_WP (ce_r 2) mX8_roomOf 0 0 4 [some (.ref (r)), some (.int (nI (w))), some (.int (nI (ce_sum (kv_room F w) i))), some (.int (nI (i)))] [] σ g (ce_pv (nI (ce_sum (kv_room F w) (F 0 2))) σ g) ce_no := by
  intro n9
  induction n9 with
  | zero =>
    intros
    omega
  | succ n9 ih =>
    intro i hm hi
    have h12 := hk.2.1 i
    refine ce_iload_n dX8_roomOf_4 rfl ?_
    refine ce_aload_n dX8_roomOf_5 rfl ?_
    refine ce_iconst (v := nI (2)) dX8_roomOf_6 (by decide) ?_
    refine ce_ialdv dX8_roomOf_7 (hA).1 rfl (hA).2 (by omega) (by decide) ((hr).c2) ?_
    refine ce_icmp_geN (tgt := 49) dX8_roomOf_8 (by decide) rfl rfl (by omega) (by omega) (fun c_8 => ?_) (fun c_8 => ?_)
    · refine ce_iload_n dX8_roomOf_49 rfl ?_
      refine ce_iret dX8_roomOf_50 rfl rfl (by decide) (by decide) ?_
      exact ⟨congrArg (fun z => some (Value.int z)) (by rw [show i = F 0 2 by omega]), rfl, rfl⟩
    · refine ce_iload_n dX8_roomOf_11 rfl ?_
      refine ce_aload_n dX8_roomOf_12 rfl ?_
      refine ce_iload_n dX8_roomOf_13 rfl ?_
      refine ce_cSp dX8_roomOf_14 hX8_binAt kRX8_58 (m_X8_binAt (i)) rfl rfl (by decide) (Nat.le_of_ble_eq_true rfl) ?_
      refine ce_iconst (v := nI (2)) dX8_roomOf_17 (by decide) ?_
      refine ce_iadd (z := nI (57 + 3 * i + 2)) dX8_roomOf_18 (nI_add _ _) ?_
      refine ce_ialdv dX8_roomOf_19 (hA).1 rfl (hA).2 (by omega) (by decide) ((hr).b2 (by omega)) ?_
      refine ce_if_eqN (tgt := 32) dX8_roomOf_20 (by decide) rfl (by omega) (fun c_20 => ?_) (fun c_20 => ?_)
      · refine ce_aload_n dX8_roomOf_32 rfl ?_
        refine ce_iload_n dX8_roomOf_33 rfl ?_
        refine ce_cSp dX8_roomOf_34 hX8_roomIn kRX8_70 (m_X8_roomIn (r) F O ⟨(hA).1, (hA).2⟩ hr (i) (by omega) (by first | omega | exact (hk.2.1 _).1)) rfl rfl (by decide) (Nat.le_of_ble_eq_true rfl) ?_
        refine ce_goto (tgt := 41) dX8_roomOf_37 (by decide) ?_
        refine ce_iadd (z := nI (ce_sum (kv_room F w) (i + 1))) dX8_roomOf_41 ((nI_add _ _).trans (congrArg nI (by rw [ce_sum]; unfold kv_room; split <;> omega))) ?_
        refine ce_istore_n dX8_roomOf_42 (Nat.le_of_ble_eq_true rfl) rfl ?_
        refine ce_iinc (v := nI (i + 1)) dX8_roomOf_43 rfl (ce_inc1 _) (Nat.le_of_ble_eq_true rfl) rfl ?_
        refine ce_goto (tgt := 4) dX8_roomOf_46 (by decide) ?_
        exact ih (i + 1) (by omega) (by omega)
      · refine ce_aload_n dX8_roomOf_23 rfl ?_
        refine ce_iload_n dX8_roomOf_24 rfl ?_
        refine ce_iload_n dX8_roomOf_25 rfl ?_
        refine ce_cSp dX8_roomOf_26 hX8_hasWine kRX8_66 (m_X8_hasWine (r) F O ⟨(hA).1, (hA).2⟩ hr (i) (w) (by omega) (by omega) hk) rfl rfl (by decide) (Nat.le_of_ble_eq_true rfl) ?_
        refine ce_if_eqB (tgt := 40) dX8_roomOf_29 (by decide) rfl (fun c_29 => ?_) (fun c_29 => ?_)
        · refine ce_iconst (v := nI (0)) dX8_roomOf_40 (by decide) ?_
          refine ce_iadd (z := nI (ce_sum (kv_room F w) (i + 1))) dX8_roomOf_41 ((nI_add _ _).trans (congrArg nI (by rw [ce_sum]; unfold kv_room; split <;> omega))) ?_
          refine ce_istore_n dX8_roomOf_42 (Nat.le_of_ble_eq_true rfl) rfl ?_
          refine ce_iinc (v := nI (i + 1)) dX8_roomOf_43 rfl (ce_inc1 _) (Nat.le_of_ble_eq_true rfl) rfl ?_
          refine ce_goto (tgt := 4) dX8_roomOf_46 (by decide) ?_
          exact ih (i + 1) (by omega) (by omega)
        · refine ce_aload_n dX8_roomOf_32 rfl ?_
          refine ce_iload_n dX8_roomOf_33 rfl ?_
          refine ce_cSp dX8_roomOf_34 hX8_roomIn kRX8_70 (m_X8_roomIn (r) F O ⟨(hA).1, (hA).2⟩ hr (i) (by omega) (by first | omega | exact (hk.2.1 _).1)) rfl rfl (by decide) (Nat.le_of_ble_eq_true rfl) ?_
          refine ce_goto (tgt := 41) dX8_roomOf_37 (by decide) ?_
          refine ce_iadd (z := nI (ce_sum (kv_room F w) (i + 1))) dX8_roomOf_41 ((nI_add _ _).trans (congrArg nI (by rw [ce_sum]; unfold kv_room; split <;> omega))) ?_
          refine ce_istore_n dX8_roomOf_42 (Nat.le_of_ble_eq_true rfl) rfl ?_
          refine ce_iinc (v := nI (i + 1)) dX8_roomOf_43 rfl (ce_inc1 _) (Nat.le_of_ble_eq_true rfl) rfl ?_
          refine ce_goto (tgt := 4) dX8_roomOf_46 (by decide) ?_
          exact ih (i + 1) (by omega) (by omega)
set_option maxHeartbeats 2000000 in
set_option maxRecDepth 20000 in
theorem m_X8_roomOf {σ : ce_S} {g : ce_D} (r : Nat) (F : ce_V) (O : Nat → Int32) (hA : ce_LA σ 10 r 189) (hr : cr_row (g r) F O) (w : Nat) (h8 : F 0 2 ≤ 8) (hw : w < 6) (hk : kv_rk F) : ce_CT (ce_r 2) mX8_roomOf [.ref (r), .int (nI (w))] σ g (ce_pv (nI (ce_sum (kv_room F w) (F 0 2))) σ g) ce_no := by
  refine ce_enter (by decide) rfl (Nat.le_of_ble_eq_true rfl) (L := [some (.ref (r)), some (.int (nI (w))), none, none]) rfl ?_
  refine ce_iconst (v := nI (0)) dX8_roomOf_0 (by decide) ?_
  refine ce_istore_n dX8_roomOf_1 (Nat.le_of_ble_eq_true rfl) rfl ?_
  refine ce_iconst (v := nI (0)) dX8_roomOf_2 (by decide) ?_
  refine ce_istore_n dX8_roomOf_3 (Nat.le_of_ble_eq_true rfl) rfl ?_
  exact w_X8_roomOf r F O hA hr w h8 hw hk (F 0 2 + 1) 0 (by omega) (by omega)
set_option maxHeartbeats 2000000 in
set_option maxRecDepth 20000 in
theorem w_X8_owedByAll {σ : ce_S} {g : ce_D} (r : Nat) (F : ce_V) (O : Nat → Int32) (hA : ce_LA σ 10 r 189) (hr : cr_row (g r) F O) (h6 : F 0 0 ≤ 6) : ∀ (n9 i : Nat), F 0 0 - i < n9 → i ≤ F 0 0 → ce_WP (ce_r 2) mX8_owedByAll 0 0 4 [some (.ref (r)), some (.int (ce_isum O i)), some (.int (nI (i)))] [] σ g (ce_pv (ce_isum O (F 0 0)) σ g) ce_no := by
  intro n9
  induction n9 with
  | zero =>
    intros
    omega
  | succ n9 ih =>
    intro i hm hi
    refine ce_iload_n dX8_owedByAll_4 rfl ?_
    refine ce_aload_n dX8_owedByAll_5 rfl ?_
    refine ce_iconst (v := nI (0)) dX8_owedByAll_6 (by decide) ?_
    refine ce_ialdv dX8_owedByAll_7 (hA).1 rfl (hA).2 (by omega) (by decide) ((hr).c0) ?_
    refine ce_icmp_geN (tgt := 28) dX8_owedByAll_8 (by decide) rfl rfl (by omega) (by omega) (fun c_8 => ?_) (fun c_8 => ?_)
    · refine ce_iload_n dX8_owedByAll_28 rfl ?_
      refine ce_iret dX8_owedByAll_29 rfl rfl (by decide) (by decide) ?_
      exact ⟨congrArg (fun z => some (Value.int z)) (by rw [show i = F 0 0 by omega]), rfl, rfl⟩
    · refine ce_iload_n dX8_owedByAll_11 rfl ?_
      refine ce_aload_n dX8_owedByAll_12 rfl ?_
      refine ce_iload_n dX8_owedByAll_13 rfl ?_
      refine ce_cSp dX8_owedByAll_14 hX8_memberAt kRX8_83 (m_X8_memberAt (i)) rfl rfl (by decide) (Nat.le_of_ble_eq_true rfl) ?_
      refine ce_iconst (v := nI (1)) dX8_owedByAll_17 (by decide) ?_
      refine ce_iadd (z := nI (3 + 3 * i + 1)) dX8_owedByAll_18 (nI_add _ _) ?_
      refine ce_ialdv dX8_owedByAll_19 (hA).1 rfl (hA).2 (by omega) (by decide) ((hr).m1 (by omega)) ?_
      refine ce_iadd (z := ce_isum O (i + 1)) dX8_owedByAll_20 rfl ?_
      refine ce_istore_n dX8_owedByAll_21 (Nat.le_of_ble_eq_true rfl) rfl ?_
      refine ce_iinc (v := nI (i + 1)) dX8_owedByAll_22 rfl (ce_inc1 _) (Nat.le_of_ble_eq_true rfl) rfl ?_
      refine ce_goto (tgt := 4) dX8_owedByAll_25 (by decide) ?_
      exact ih (i + 1) (by omega) (by omega)
set_option maxHeartbeats 2000000 in
set_option maxRecDepth 20000 in
theorem m_X8_owedByAll {σ : ce_S} {g : ce_D} (r : Nat) (F : ce_V) (O : Nat → Int32) (hA : ce_LA σ 10 r 189) (hr : cr_row (g r) F O) (h6 : F 0 0 ≤ 6) : ce_CT (ce_r 2) mX8_owedByAll [.ref (r)] σ g (ce_pv (ce_isum O (F 0 0)) σ g) ce_no := by
  refine ce_enter (by decide) rfl (Nat.le_of_ble_eq_true rfl) (L := [some (.ref (r)), none, none]) rfl ?_
  refine ce_iconst (v := nI (0)) dX8_owedByAll_0 (by decide) ?_
  refine ce_istore_n dX8_owedByAll_1 (Nat.le_of_ble_eq_true rfl) rfl ?_
  refine ce_iconst (v := nI (0)) dX8_owedByAll_2 (by decide) ?_
  refine ce_istore_n dX8_owedByAll_3 (Nat.le_of_ble_eq_true rfl) rfl ?_
  exact w_X8_owedByAll r F O hA hr h6 (F 0 0 + 1) 0 (by omega) (by omega)
