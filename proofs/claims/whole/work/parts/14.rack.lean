set_option maxHeartbeats 2000000 in
set_option maxRecDepth 20000 in
theorem m_X3_knows {σ : ce_S} {g : ce_D} (h : Nat) (K : ce_V) (hL : ce_LK σ h) (hr : ce_rK g h K) (hk : kv_rk K) (x : Int32) : ce_CT (ce_r 0) mX3_knows [.ref (h), .int (x)] σ g (ce_pv (if ce_in x (K 0 2) then 1 else 0) σ g) ce_no := by
  have hB := hk.1
  refine ce_enter (by decide) rfl (Nat.le_of_ble_eq_true rfl) (L := [some (.ref (h)), some (.int (x))]) rfl ?_
  refine ce_iload_n dX3_knows_0 rfl ?_
  refine ce_if_ltI (tgt := 16) dX3_knows_1 (by decide) (p := (x).toInt) rfl (fun c_1 => ?_) (fun c_1 => ?_)
  · refine ce_iconst (v := nI (0)) dX3_knows_16 (by decide) ?_
    refine ce_iret dX3_knows_17 rfl (by first | rfl | decide | assumption) (by decide) (by decide) ?_
    exact ⟨congrArg (fun z => some (Value.int z)) ((if_neg (by unfold ce_in; omega)).symm), rfl, rfl⟩
  · refine ce_iload_n dX3_knows_4 rfl ?_
    refine ce_aload_n dX3_knows_5 rfl ?_
    refine ce_getIv dX3_knows_6 fRX3_21 (hL).1 (hr).1 ?_
    refine ce_icmp_geI (p := (x).toInt) (q := ((K 0 2 : Nat) : Int)) (tgt := 16) dX3_knows_9 (by decide) rfl (nI_toInt (by omega)) (fun c_9 => ?_) (fun c_9 => ?_)
    · refine ce_iconst (v := nI (0)) dX3_knows_16 (by decide) ?_
      refine ce_iret dX3_knows_17 rfl (by first | rfl | decide | assumption) (by decide) (by decide) ?_
      exact ⟨congrArg (fun z => some (Value.int z)) ((if_neg (by unfold ce_in; omega)).symm), rfl, rfl⟩
    · refine ce_iconst (v := nI (1)) dX3_knows_12 (by decide) ?_
      refine ce_goto (tgt := 17) dX3_knows_13 (by decide) ?_
      refine ce_iret dX3_knows_17 rfl (by first | rfl | decide | assumption) (by decide) (by decide) ?_
      exact ⟨congrArg (fun z => some (Value.int z)) ((if_pos (by unfold ce_in; omega)).symm), rfl, rfl⟩
set_option maxHeartbeats 2000000 in
set_option maxRecDepth 20000 in
theorem m_X3_factOf0 {σ : ce_S} {g : ce_D} (h : Nat) (K : ce_V) (hL : ce_LK σ h) (hr : ce_rK g h K) (hk : kv_rk K) (b : Nat) (hb : b < K 0 2) : ce_CT (ce_r 0) mX3_factOf [.ref (h), .int (nI (b)), .int (nI (0))] σ g (ce_pv (nI (K 11 b)) σ g) ce_no := by
  have hB := hk.1
  have hb1 := hk.2.1 b
  refine ce_enter (by decide) rfl (Nat.le_of_ble_eq_true rfl) (L := [some (.ref (h)), some (.int (nI (b))), some (.int (nI (0)))]) rfl ?_
  refine ce_iload_n dX3_factOf_0 rfl ?_
  refine ce_lookup (tgt := 28) dX3_factOf_1 (by decide) (by decide) (by decide) ?_
  refine ce_aload_n dX3_factOf_28 rfl ?_
  refine ce_getR dX3_factOf_29 fRX3_9 (hL).1 (hL).2.1.1 ?_
  refine ce_iload_n dX3_factOf_32 rfl ?_
  refine ce_ialdv dX3_factOf_33 ((hL).2.2.1).1 rfl ((hL).2.2.1).2 (by omega) (by decide) ((hr).2.1 _ (by omega)) ?_
  refine ce_iret dX3_factOf_34 rfl rfl (by decide) (by decide) ?_
  exact ⟨rfl, rfl, rfl⟩
set_option maxHeartbeats 2000000 in
set_option maxRecDepth 20000 in
theorem m_X3_factOf1 {σ : ce_S} {g : ce_D} (h : Nat) (K : ce_V) (hL : ce_LK σ h) (hr : ce_rK g h K) (hk : kv_rk K) (b : Nat) (hb : b < K 0 2) : ce_CT (ce_r 0) mX3_factOf [.ref (h), .int (nI (b)), .int (nI (1))] σ g (ce_pv (ce_wi K b) σ g) ce_no := by
  have hB := hk.1
  have hb1 := hk.2.1 b
  refine ce_enter (by decide) rfl (Nat.le_of_ble_eq_true rfl) (L := [some (.ref (h)), some (.int (nI (b))), some (.int (nI (1)))]) rfl ?_
  refine ce_iload_n dX3_factOf_0 rfl ?_
  refine ce_lookup (tgt := 35) dX3_factOf_1 (by decide) (by decide) (by decide) ?_
  refine ce_aload_n dX3_factOf_35 rfl ?_
  refine ce_getR dX3_factOf_36 fRX3_15 (hL).1 (hL).2.1.2.1 ?_
  refine ce_iload_n dX3_factOf_39 rfl ?_
  refine ce_ialdv dX3_factOf_40 ((hL).2.2.2.1).1 rfl ((hL).2.2.2.1).2 (by omega) (by decide) ((hr).2.2.1 _ (by omega)) ?_
  refine ce_iret dX3_factOf_41 rfl rfl (by decide) (by decide) ?_
  exact ⟨rfl, rfl, rfl⟩
set_option maxHeartbeats 2000000 in
set_option maxRecDepth 20000 in
theorem m_X3_factOf2 {σ : ce_S} {g : ce_D} (h : Nat) (K : ce_V) (hL : ce_LK σ h) (hr : ce_rK g h K) (hk : kv_rk K) (b : Nat) (hb : b < K 0 2) : ce_CT (ce_r 0) mX3_factOf [.ref (h), .int (nI (b)), .int (nI (2))] σ g (ce_pv (nI (K 12 b)) σ g) ce_no := by
  have hB := hk.1
  have hb1 := hk.2.1 b
  refine ce_enter (by decide) rfl (Nat.le_of_ble_eq_true rfl) (L := [some (.ref (h)), some (.int (nI (b))), some (.int (nI (2)))]) rfl ?_
  refine ce_iload_n dX3_factOf_0 rfl ?_
  refine ce_lookup (tgt := 42) dX3_factOf_1 (by decide) (by decide) (by decide) ?_
  refine ce_aload_n dX3_factOf_42 rfl ?_
  refine ce_getR dX3_factOf_43 fRX3_18 (hL).1 (hL).2.1.2.2 ?_
  refine ce_iload_n dX3_factOf_46 rfl ?_
  refine ce_ialdv dX3_factOf_47 ((hL).2.2.2.2).1 rfl ((hL).2.2.2.2).2 (by omega) (by decide) ((hr).2.2.2 _ (by omega)) ?_
  refine ce_iret dX3_factOf_48 rfl rfl (by decide) (by decide) ?_
  exact ⟨rfl, rfl, rfl⟩
def kv_binF (K : ce_V) (x : Int32) : Nat := if 1 ≤ x.toInt ∧ x.toInt ≤ 24 then (if K 0 2 < 8 then 0 else 3) else 2
set_option maxHeartbeats 2000000 in
set_option maxRecDepth 20000 in
theorem m_X3_binFault {σ : ce_S} {g : ce_D} (h : Nat) (K : ce_V) (hL : ce_LK σ h) (hr : ce_rK g h K) (hk : kv_rk K) (x : Int32) : ce_CT (ce_r 0) mX3_binFault [.ref (h), .int (x)] σ g (ce_pv (nI (kv_binF K x)) σ g) ce_no := by
  have hB := hk.1
  refine ce_enter (by decide) rfl (Nat.le_of_ble_eq_true rfl) (L := [some (.ref (h)), some (.int (x))]) rfl ?_
  refine ce_iload_n dX3_binFault_0 rfl ?_
  refine ce_iconst (v := nI (1)) dX3_binFault_1 (by decide) ?_
  refine ce_icmp_ltI (p := (x).toInt) (q := ((1 : Nat) : Int)) (tgt := 11) dX3_binFault_2 (by decide) rfl (nI_toInt (by omega)) (fun c_2 => ?_) (fun c_2 => ?_)
  · refine ce_iconst (v := nI (2)) dX3_binFault_11 (by decide) ?_
    refine ce_iret dX3_binFault_12 rfl rfl (by decide) (by decide) ?_
    exact ⟨congrArg (fun z => some (Value.int z)) (congrArg nI (show 2 = kv_binF K x by unfold kv_binF; split <;> (try split) <;> omega)), rfl, rfl⟩
  · refine ce_iload_n dX3_binFault_5 rfl ?_
    refine ce_bipush (v := nI (24)) dX3_binFault_6 (by decide) ?_
    refine ce_icmp_leI (p := (x).toInt) (q := ((24 : Nat) : Int)) (tgt := 13) dX3_binFault_8 (by decide) rfl (nI_toInt (by omega)) (fun c_8 => ?_) (fun c_8 => ?_)
    · refine ce_aload_n dX3_binFault_13 rfl ?_
      refine ce_getIv dX3_binFault_14 fRX3_21 (hL).1 (hr).1 ?_
      refine ce_bipush (v := nI (8)) dX3_binFault_17 (by decide) ?_
      refine ce_icmp_geN (tgt := 26) dX3_binFault_19 (by decide) rfl rfl (by omega) (by omega) (fun c_19 => ?_) (fun c_19 => ?_)
      · refine ce_iconst (v := nI (3)) dX3_binFault_26 (by decide) ?_
        refine ce_iret dX3_binFault_27 rfl rfl (by decide) (by decide) ?_
        exact ⟨congrArg (fun z => some (Value.int z)) (congrArg nI (show 3 = kv_binF K x by unfold kv_binF; split <;> (try split) <;> omega)), rfl, rfl⟩
      · refine ce_iconst (v := nI (0)) dX3_binFault_22 (by decide) ?_
        refine ce_goto (tgt := 27) dX3_binFault_23 (by decide) ?_
        refine ce_iret dX3_binFault_27 rfl rfl (by decide) (by decide) ?_
        exact ⟨congrArg (fun z => some (Value.int z)) (congrArg nI (show 0 = kv_binF K x by unfold kv_binF; split <;> (try split) <;> omega)), rfl, rfl⟩
    · refine ce_iconst (v := nI (2)) dX3_binFault_11 (by decide) ?_
      refine ce_iret dX3_binFault_12 rfl rfl (by decide) (by decide) ?_
      exact ⟨congrArg (fun z => some (Value.int z)) (congrArg nI (show 2 = kv_binF K x by unfold kv_binF; split <;> (try split) <;> omega)), rfl, rfl⟩
set_option maxHeartbeats 2000000 in
set_option maxRecDepth 20000 in
theorem m_X3_roomIn {σ : ce_S} {g : ce_D} (h : Nat) (K : ce_V) (hL : ce_LK σ h) (hr : ce_rK g h K) (hk : kv_rk K) (b : Nat) (hb : b < 8) : ce_CT (ce_r 0) mX3_roomIn [.ref (h), .int (nI (b))] σ g (ce_pv (nI (K 11 b - K 12 b)) σ g) ce_no := by
  have hB := hk.1
  have hb1 := hk.2.1 b
  refine ce_enter (by decide) rfl (Nat.le_of_ble_eq_true rfl) (L := [some (.ref (h)), some (.int (nI (b)))]) rfl ?_
  refine ce_aload_n dX3_roomIn_0 rfl ?_
  refine ce_getR dX3_roomIn_1 fRX3_9 (hL).1 (hL).2.1.1 ?_
  refine ce_iload_n dX3_roomIn_4 rfl ?_
  refine ce_ialdv dX3_roomIn_5 ((hL).2.2.1).1 rfl ((hL).2.2.1).2 (by omega) (by decide) ((hr).2.1 _ (by omega)) ?_
  refine ce_aload_n dX3_roomIn_6 rfl ?_
  refine ce_getR dX3_roomIn_7 fRX3_18 (hL).1 (hL).2.1.2.2 ?_
  refine ce_iload_n dX3_roomIn_10 rfl ?_
  refine ce_ialdv dX3_roomIn_11 ((hL).2.2.2.2).1 rfl ((hL).2.2.2.2).2 (by omega) (by decide) ((hr).2.2.2 _ (by omega)) ?_
  refine ce_isub (z := nI (K 11 (b) - (K 12 (b)))) dX3_roomIn_12 (pk_sub (by omega)) ?_
  refine ce_iret dX3_roomIn_13 rfl rfl (by decide) (by decide) ?_
  exact ⟨rfl, rfl, rfl⟩
theorem kv_emp_le (K : ce_V) : ∀ n, kv_emp K n ≤ n
  | 0 => Nat.le_refl _
  | n + 1 => by have := kv_emp_le K n; unfold kv_emp; split <;> omega
set_option maxHeartbeats 2000000 in
set_option maxRecDepth 20000 in
theorem w_X3_emptyBins {σ : ce_S} {g : ce_D} (h : Nat) (K : ce_V) (hL : ce_LK σ h) (hr : ce_rK g h K) (hk : kv_rk K) : ∀ (n9 : Nat) (i : Nat), K 0 2 - i < n9 → i ≤ K 0 2 → ce_WP (ce_r 0) mX3_emptyBins 0 0 4 [some (.ref (h)), some (.int (nI (kv_emp K i))), some (.int (nI (i)))] [] σ g (ce_pv (nI (kv_emp K (K 0 2))) σ g) ce_no := by
  intro n9
  induction n9 with
  | zero =>
    intros
    omega
  | succ n9 ih =>
    intro i hm hi
    have he := kv_emp_le K i
    have hB := hk.1
    have hi1 := hk.2.1 i
    refine ce_iload_n dX3_emptyBins_4 rfl ?_
    refine ce_aload_n dX3_emptyBins_5 rfl ?_
    refine ce_getIv dX3_emptyBins_6 fRX3_21 (hL).1 (hr).1 ?_
    refine ce_icmp_geN (tgt := 30) dX3_emptyBins_9 (by decide) rfl rfl (by omega) (by omega) (fun c_9 => ?_) (fun c_9 => ?_)
    · refine ce_iload_n dX3_emptyBins_30 rfl ?_
    refine ce_iret dX3_emptyBins_31 rfl rfl (by decide) (by decide) ?_
    exact ⟨congrArg (fun z => some (Value.int z)) (by rw [show i = K 0 2 by omega]), rfl, rfl⟩
    · refine ce_aload_n dX3_emptyBins_12 rfl ?_
    refine ce_getR dX3_emptyBins_13 fRX3_18 (hL).1 (hL).2.1.2.2 ?_
    refine ce_iload_n dX3_emptyBins_16 rfl ?_
    refine ce_ialdv dX3_emptyBins_17 ((hL).2.2.2.2).1 rfl ((hL).2.2.2.2).2 (by omega) (by decide) ((hr).2.2.2 _ (by omega)) ?_
    refine ce_if_neN (tgt := 24) dX3_emptyBins_18 (by decide) rfl (by omega) (fun c_18 => ?_) (fun c_18 => ?_)
    · refine ce_iinc (v := nI (i + 1)) dX3_emptyBins_24 rfl (ce_inc1 _) (Nat.le_of_ble_eq_true rfl) rfl ?_
      refine ce_goto (tgt := 4) dX3_emptyBins_27 (by decide) ?_
      have e9 : kv_emp K (i + 1) = kv_emp K i := by rw [kv_emp]; rw [if_neg c_18]
      rw [Nat.add_zero] at e9; rw [← e9]
      exact ih (i + 1) (by omega) (by omega)
    · refine ce_iinc (v := nI (kv_emp K i + 1)) dX3_emptyBins_21 rfl (ce_inc1 _) (Nat.le_of_ble_eq_true rfl) rfl ?_
      refine ce_iinc (v := nI (i + 1)) dX3_emptyBins_24 rfl (ce_inc1 _) (Nat.le_of_ble_eq_true rfl) rfl ?_
      refine ce_goto (tgt := 4) dX3_emptyBins_27 (by decide) ?_
      have e9 : kv_emp K (i + 1) = kv_emp K i + 1 := by rw [kv_emp]; rw [if_pos c_18]
      rw [← e9]
      exact ih (i + 1) (by omega) (by omega)
set_option maxHeartbeats 2000000 in
set_option maxRecDepth 20000 in
theorem m_X3_emptyBins {σ : ce_S} {g : ce_D} (h : Nat) (K : ce_V) (hL : ce_LK σ h) (hr : ce_rK g h K) (hk : kv_rk K) : ce_CT (ce_r 0) mX3_emptyBins [.ref (h)] σ g (ce_pv (nI (kv_emp K (K 0 2))) σ g) ce_no := by
  have hB := hk.1
  refine ce_enter (by decide) rfl (Nat.le_of_ble_eq_true rfl) (L := [some (.ref (h)), none, none]) rfl ?_
  refine ce_iconst (v := nI (0)) dX3_emptyBins_0 (by decide) ?_
  refine ce_istore_n dX3_emptyBins_1 (Nat.le_of_ble_eq_true rfl) rfl ?_
  refine ce_iconst (v := nI (0)) dX3_emptyBins_2 (by decide) ?_
  refine ce_istore_n dX3_emptyBins_3 (Nat.le_of_ble_eq_true rfl) rfl ?_
  exact w_X3_emptyBins h K hL hr hk (K 0 2 + 1) 0 (by omega) (by omega)
set_option maxHeartbeats 2000000 in
set_option maxRecDepth 20000 in
theorem w_X3_roomInAll {σ : ce_S} {g : ce_D} (h : Nat) (K : ce_V) (hL : ce_LK σ h) (hr : ce_rK g h K) (hk : kv_rk K) : ∀ (n9 : Nat) (i : Nat), K 0 2 - i < n9 → i ≤ K 0 2 → ce_WP (ce_r 1) mX3_roomInAll 0 0 4 [some (.ref (h)), some (.int (nI (ce_sum (fun b => K 11 b - K 12 b) i))), some (.int (nI (i)))] [] σ g (ce_pv (nI (ce_sum (fun b => K 11 b - K 12 b) (K 0 2))) σ g) ce_no := by
  intro n9
  induction n9 with
  | zero =>
    intros
    omega
  | succ n9 ih =>
    intro i hm hi
    have hB := hk.1
    have hi1 := hk.2.1 i
    refine ce_iload_n dX3_roomInAll_4 rfl ?_
    refine ce_aload_n dX3_roomInAll_5 rfl ?_
    refine ce_getIv dX3_roomInAll_6 fRX3_21 (hL).1 (hr).1 ?_
    refine ce_icmp_geN (tgt := 26) dX3_roomInAll_9 (by decide) rfl rfl (by omega) (by omega) (fun c_9 => ?_) (fun c_9 => ?_)
    · refine ce_iload_n dX3_roomInAll_26 rfl ?_
      refine ce_iret dX3_roomInAll_27 rfl rfl (by decide) (by decide) ?_
      exact ⟨congrArg (fun z => some (Value.int z)) (by rw [show i = K 0 2 by omega]), rfl, rfl⟩
    · refine ce_iload_n dX3_roomInAll_12 rfl ?_
      refine ce_aload_n dX3_roomInAll_13 rfl ?_
      refine ce_iload_n dX3_roomInAll_14 rfl ?_
      refine ce_cVp dX3_roomInAll_15 hX3_roomIn kRX3_26 (m_X3_roomIn h K hL hr hk (i) (by omega)) rfl rfl (hL).1 rfl (by decide) (Nat.le_of_ble_eq_true rfl) ?_
      refine ce_iadd (z := nI (ce_sum (fun b => K 11 b - K 12 b) (i + 1))) dX3_roomInAll_18 (nI_add _ _) ?_
      refine ce_istore_n dX3_roomInAll_19 (Nat.le_of_ble_eq_true rfl) rfl ?_
      refine ce_iinc (v := nI (i + 1)) dX3_roomInAll_20 rfl (ce_inc1 _) (Nat.le_of_ble_eq_true rfl) rfl ?_
      refine ce_goto (tgt := 4) dX3_roomInAll_23 (by decide) ?_
      exact ih (i + 1) (by omega) (by omega)
set_option maxHeartbeats 2000000 in
set_option maxRecDepth 20000 in
theorem m_X3_roomInAll {σ : ce_S} {g : ce_D} (h : Nat) (K : ce_V) (hL : ce_LK σ h) (hr : ce_rK g h K) (hk : kv_rk K) : ce_CT (ce_r 1) mX3_roomInAll [.ref (h)] σ g (ce_pv (nI (ce_sum (fun b => K 11 b - K 12 b) (K 0 2))) σ g) ce_no := by
  have hB := hk.1
  refine ce_enter (by decide) rfl (Nat.le_of_ble_eq_true rfl) (L := [some (.ref (h)), none, none]) rfl ?_
  refine ce_iconst (v := nI (0)) dX3_roomInAll_0 (by decide) ?_
  refine ce_istore_n dX3_roomInAll_1 (Nat.le_of_ble_eq_true rfl) rfl ?_
  refine ce_iconst (v := nI (0)) dX3_roomInAll_2 (by decide) ?_
  refine ce_istore_n dX3_roomInAll_3 (Nat.le_of_ble_eq_true rfl) rfl ?_
  exact w_X3_roomInAll h K hL hr hk (K 0 2 + 1) 0 (by omega) (by omega)
set_option maxHeartbeats 2000000 in
set_option maxRecDepth 20000 in
theorem m_X3_takesWine {σ : ce_S} {g : ce_D} (h : Nat) (K : ce_V) (hL : ce_LK σ h) (hr : ce_rK g h K) (hk : kv_rk K) (b : Nat) (x : Int32) (hb : b < K 0 2) : ce_CT (ce_r 0) mX3_takesWine [.ref (h), .int (nI (b)), .int (x)] σ g (ce_pv (if K 12 b = 0 ∨ ce_wi K b = x then 1 else 0) σ g) ce_no := by
  have hB := hk.1
  have hb1 := hk.2.1 b
  refine ce_enter (by decide) rfl (Nat.le_of_ble_eq_true rfl) (L := [some (.ref (h)), some (.int (nI (b))), some (.int (x))]) rfl ?_
  refine ce_aload_n dX3_takesWine_0 rfl ?_
  refine ce_getR dX3_takesWine_1 fRX3_18 (hL).1 (hL).2.1.2.2 ?_
  refine ce_iload_n dX3_takesWine_4 rfl ?_
  refine ce_ialdv dX3_takesWine_5 ((hL).2.2.2.2).1 rfl ((hL).2.2.2.2).2 (by omega) (by decide) ((hr).2.2.2 _ (by omega)) ?_
  refine ce_if_eqN (tgt := 19) dX3_takesWine_6 (by decide) rfl (by omega) (fun c_6 => ?_) (fun c_6 => ?_)
  · refine ce_iconst (v := nI (1)) dX3_takesWine_19 (by decide) ?_
    refine ce_goto (tgt := 24) dX3_takesWine_20 (by decide) ?_
    refine ce_iret dX3_takesWine_24 rfl (by first | rfl | decide | assumption) (by decide) (by decide) ?_
    exact ⟨congrArg (fun z => some (Value.int z)) ((if_pos (by first | exact Or.inl (by omega) | exact Or.inr (Int32.toInt_inj.mp c_16))).symm), rfl, rfl⟩
  · refine ce_aload_n dX3_takesWine_9 rfl ?_
    refine ce_getR dX3_takesWine_10 fRX3_15 (hL).1 (hL).2.1.2.1 ?_
    refine ce_iload_n dX3_takesWine_13 rfl ?_
    refine ce_ialdv dX3_takesWine_14 ((hL).2.2.2.1).1 rfl ((hL).2.2.2.1).2 (by omega) (by decide) ((hr).2.2.1 _ (by omega)) ?_
    refine ce_iload_n dX3_takesWine_15 rfl ?_
    refine ce_icmp_neI (p := (ce_wi K (b)).toInt) (q := (x).toInt) (tgt := 23) dX3_takesWine_16 (by decide) rfl rfl (fun c_16 => ?_) (fun c_16 => ?_)
    · refine ce_iconst (v := nI (0)) dX3_takesWine_23 (by decide) ?_
      refine ce_iret dX3_takesWine_24 rfl (by first | rfl | decide | assumption) (by decide) (by decide) ?_
      exact ⟨congrArg (fun z => some (Value.int z)) ((if_neg (by rintro (e | e); omega; exact c_16 (congrArg Int32.toInt e))).symm), rfl, rfl⟩
    · refine ce_iconst (v := nI (1)) dX3_takesWine_19 (by decide) ?_
      refine ce_goto (tgt := 24) dX3_takesWine_20 (by decide) ?_
      refine ce_iret dX3_takesWine_24 rfl (by first | rfl | decide | assumption) (by decide) (by decide) ?_
      exact ⟨congrArg (fun z => some (Value.int z)) ((if_pos (by first | exact Or.inl (by omega) | exact Or.inr (Int32.toInt_inj.mp c_16))).symm), rfl, rfl⟩
theorem ce_wi_w {K : ce_V} (hk : kv_rk K) {b w : Nat} (hw : w < 6) : (K 12 b = 0 ∨ ce_wi K b = nI w) ↔ (K 12 b = 0 ∨ K 13 b = w + 1) := by
  unfold ce_wi
  by_cases h : K 12 b = 0
  · simp [h]
  · have h1 := hk.2.2.2.1 b (by omega)
    rw [if_neg h, nI_eq (by omega) (by omega)]
    omega
theorem ce_wi_w2 {K : ce_V} (hk : kv_rk K) {b w : Nat} (hw : w < 6) (h : 0 < K 12 b) : (ce_wi K b).toInt = ((w : Nat) : Int) ↔ K 13 b = w + 1 := by
  have h1 := hk.2.2.2.1 b h
  unfold ce_wi
  rw [if_neg (by omega), nI_toInt (by omega)]
  omega
set_option maxHeartbeats 2000000 in
set_option maxRecDepth 20000 in
theorem w_X3_roomForWine {σ : ce_S} {g : ce_D} (h : Nat) (K : ce_V) (hL : ce_LK σ h) (hr : ce_rK g h K) (hk : kv_rk K) (w : Nat) (hw : w < 6) : ∀ (n9 : Nat) (i : Nat), K 0 2 - i < n9 → i ≤ K 0 2 → ce_WP (ce_r 1) mX3_roomForWine 0 0 4 [some (.ref (h)), some (.int (nI (w))), some (.int (nI (ce_sum (kv_room K w) i))), some (.int (nI (i)))] [] σ g (ce_pv (nI (ce_sum (kv_room K w) (K 0 2))) σ g) ce_no := by
  intro n9
  induction n9 with
  | zero =>
    intros
    omega
  | succ n9 ih =>
    intro i hm hi
    have hB := hk.1
    have hi1 := hk.2.1 i
    refine ce_iload_n dX3_roomForWine_4 rfl ?_
    refine ce_aload_n dX3_roomForWine_5 rfl ?_
    refine ce_getIv dX3_roomForWine_6 fRX3_21 (hL).1 (hr).1 ?_
    refine ce_icmp_geN (tgt := 35) dX3_roomForWine_9 (by decide) rfl rfl (by omega) (by omega) (fun c_9 => ?_) (fun c_9 => ?_)
    · refine ce_iload_n dX3_roomForWine_35 rfl ?_
      refine ce_iret dX3_roomForWine_36 rfl rfl (by decide) (by decide) ?_
      exact ⟨congrArg (fun z => some (Value.int z)) (by rw [show i = K 0 2 by omega]), rfl, rfl⟩
    · refine ce_aload_n dX3_roomForWine_12 rfl ?_
      refine ce_iload_n dX3_roomForWine_13 rfl ?_
      refine ce_iload_n dX3_roomForWine_14 rfl ?_
      refine ce_cVp dX3_roomForWine_15 hX3_takesWine kRX3_30 (m_X3_takesWine h K hL hr hk (i) (nI (w)) (by omega)) rfl rfl (hL).1 rfl (by decide) (Nat.le_of_ble_eq_true rfl) ?_
      refine ce_if_eqB (tgt := 29) dX3_roomForWine_18 (by decide) rfl (fun c_18 => ?_) (fun c_18 => ?_)
      · refine ce_iinc (v := nI (i + 1)) dX3_roomForWine_29 rfl (ce_inc1 _) (Nat.le_of_ble_eq_true rfl) rfl ?_
        refine ce_goto (tgt := 4) dX3_roomForWine_32 (by decide) ?_
        have e9 : ce_sum (kv_room K w) (i + 1) = ce_sum (kv_room K w) i := by
          rw [ce_wi_w hk hw] at c_18
          rw [ce_sum, kv_room, if_neg c_18]
          omega
        rw [← e9]
        exact ih (i + 1) (by omega) (by omega)
      · refine ce_iload_n dX3_roomForWine_21 rfl ?_
        refine ce_aload_n dX3_roomForWine_22 rfl ?_
        refine ce_iload_n dX3_roomForWine_23 rfl ?_
        refine ce_cVp dX3_roomForWine_24 hX3_roomIn kRX3_26 (m_X3_roomIn h K hL hr hk (i) (by omega)) rfl rfl (hL).1 rfl (by decide) (Nat.le_of_ble_eq_true rfl) ?_
        refine ce_iadd (z := nI (ce_sum (kv_room K w) i + K 11 (i) - K 12 (i))) dX3_roomForWine_27 (nI_add _ _) ?_
        refine ce_istore_n dX3_roomForWine_28 (Nat.le_of_ble_eq_true rfl) rfl ?_
        refine ce_iinc (v := nI (i + 1)) dX3_roomForWine_29 rfl (ce_inc1 _) (Nat.le_of_ble_eq_true rfl) rfl ?_
        refine ce_goto (tgt := 4) dX3_roomForWine_32 (by decide) ?_
        have e9 : ce_sum (kv_room K w) (i + 1) = ce_sum (kv_room K w) i + K 11 (i) - K 12 (i) := by
          rw [ce_wi_w hk hw] at c_18
          rw [ce_sum, kv_room, if_pos c_18]
        rw [← e9]
        exact ih (i + 1) (by omega) (by omega)
set_option maxHeartbeats 2000000 in
set_option maxRecDepth 20000 in
theorem m_X3_roomForWine {σ : ce_S} {g : ce_D} (h : Nat) (K : ce_V) (hL : ce_LK σ h) (hr : ce_rK g h K) (hk : kv_rk K) (w : Nat) (hw : w < 6) : ce_CT (ce_r 1) mX3_roomForWine [.ref (h), .int (nI (w))] σ g (ce_pv (nI (ce_sum (kv_room K w) (K 0 2))) σ g) ce_no := by
  have hB := hk.1
  refine ce_enter (by decide) rfl (Nat.le_of_ble_eq_true rfl) (L := [some (.ref (h)), some (.int (nI (w))), none, none]) rfl ?_
  refine ce_iconst (v := nI (0)) dX3_roomForWine_0 (by decide) ?_
  refine ce_istore_n dX3_roomForWine_1 (Nat.le_of_ble_eq_true rfl) rfl ?_
  refine ce_iconst (v := nI (0)) dX3_roomForWine_2 (by decide) ?_
  refine ce_istore_n dX3_roomForWine_3 (Nat.le_of_ble_eq_true rfl) rfl ?_
  exact w_X3_roomForWine h K hL hr hk w hw (K 0 2 + 1) 0 (by omega) (by omega)
