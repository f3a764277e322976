set_option maxHeartbeats 2000000 in
set_option maxRecDepth 20000 in
theorem m_X3_knows {σ : ce_S} {g : ce_D} (h : Nat) (K : ce_V) (hL : ce_LK σ h) (hr : ce_rK g h K) (hk : kv_rk K) (x : Int32) : ce_CT (ce_r 0) mX3_knows [.ref (h), .int (x)] σ g (ce_pv (if ce_in x (K 0 2) then 1 else 0) σ g) ce_no := by
  have hB := hk.1
  refine ce_enter (by decide) rfl (Nat.le_of_ble_eq_true rfl) (L := [some (.ref (h)), some (.int (x))]) rfl ?_
  refine ce_iload_n dX3_knows_0 rfl ?_
  refine ce_if_ltI (tgt := 16) dX3_knows_1 (by decide) (p := (x).toInt) rfl (fun c_1 => ?_) (fun c_1 => ?_)
  · refine ce_iconst (v := nI (0)) dX3_knows_16 (by decide) ?_
    refine ce_iret dX3_knows_17 rfl (by first | rfl | decide | assumption) (by decide) (by decide) ?_
    exact ⟨congrArg (fun z => some (Value.int z)) ((if_neg (by unfold ce_in; omega)).symm), rfl, rfl⟩
  · refine ce_iload_n dX3_knows_4 rfl ?_
    refine ce_aload_n dX3_knows_5 rfl ?_
    refine ce_getIv dX3_knows_6 fRX3_21 (hL).1 (hr).1 ?_
    refine ce_icmp_geI (p := (x).toInt) (q := ((K 0 2 : Nat) : Int)) (tgt := 16) dX3_knows_9 (by decide) rfl (nI_toInt (by omega)) (fun c_9 => ?_) (fun c_9 => ?_)
    · refine ce_iconst (v := nI (0)) dX3_knows_16 (by decide) ?_
      refine ce_iret dX3_knows_17 rfl (by first | rfl | decide | assumption) (by decide) (by decide) ?_
      exact ⟨congrArg (fun z => some (Value.int z)) ((if_neg (by unfold ce_in; omega)).symm), rfl, rfl⟩
    · refine ce_iconst (v := nI (1)) dX3_knows_12 (by decide) ?_
      refine ce_goto (tgt := 17) dX3_knows_13 (by decide) ?_
      refine ce_iret dX3_knows_17 rfl (by first | rfl | decide | assumption) (by decide) (by decide) ?_
      exact ⟨congrArg (fun z => some (Value.int z)) ((if_pos (by unfold ce_in; omega)).symm), rfl, rfl⟩
set_option maxHeartbeats 2000000 in
set_option maxRecDepth 20000 in
theorem m_X3_factOf0 {σ : ce_S} {g : ce_D} (h : Nat) (K : ce_V) (hL : ce_LK σ h) (hr : ce_rK g h K) (hk : kv_rk K) (b : Nat) (hb : b < K 0 2) : ce_CT (ce_r 0) mX3_factOf [.ref (h), .int (nI (b)), .int (nI (0))] σ g (ce_pv (nI (K 11 b)) σ g) ce_no := by
  have hB := hk.1
  have hb1 := hk.2.1 b
  refine ce_enter (by decide) rfl (Nat.le_of_ble_eq_true rfl) (L := [some (.ref (h)), some (.int (nI (b))), some (.int (nI (0)))]) rfl ?_
  refine ce_iload_n dX3_factOf_0 rfl ?_
  refine ce_lookup (off := 27) (tgt := 28) dX3_factOf_1 (by decide) (by decide) (by decide) ?_
  refine ce_aload_n dX3_factOf_28 rfl ?_
  refine ce_getR dX3_factOf_29 fRX3_9 (hL).1 (hL).2.1.1 ?_
  refine ce_iload_n dX3_factOf_32 rfl ?_
  refine ce_ialdv dX3_factOf_33 ((hL).2.2.1).1 rfl ((hL).2.2.1).2 (by omega) (by decide) ((hr).2.1 _ (by omega)) ?_
  refine ce_iret dX3_factOf_34 rfl rfl (by decide) (by decide) ?_
  exact ⟨rfl, rfl, rfl⟩
set_option maxHeartbeats 2000000 in
set_option maxRecDepth 20000 in
theorem m_X3_factOf1 {σ : ce_S} {g : ce_D} (h : Nat) (K : ce_V) (hL : ce_LK σ h) (hr : ce_rK g h K) (hk : kv_rk K) (b : Nat) (hb : b < K 0 2) : ce_CT (ce_r 0) mX3_factOf [.ref (h), .int (nI (b)), .int (nI (1))] σ g (ce_pv (ce_wi K b) σ g) ce_no := by
  have hB := hk.1
  have hb1 := hk.2.1 b
  refine ce_enter (by decide) rfl (Nat.le_of_ble_eq_true rfl) (L := [some (.ref (h)), some (.int (nI (b))), some (.int (nI (1)))]) rfl ?_
  refine ce_iload_n dX3_factOf_0 rfl ?_
  refine ce_lookup (off := 34) (tgt := 35) dX3_factOf_1 (by decide) (by decide) (by decide) ?_
  refine ce_aload_n dX3_factOf_35 rfl ?_
  refine ce_getR dX3_factOf_36 fRX3_15 (hL).1 (hL).2.1.2.1 ?_
  refine ce_iload_n dX3_factOf_39 rfl ?_
  refine ce_ialdv dX3_factOf_40 ((hL).2.2.2.1).1 rfl ((hL).2.2.2.1).2 (by omega) (by decide) ((hr).2.2.1 _ (by omega)) ?_
  refine ce_iret dX3_factOf_41 rfl rfl (by decide) (by decide) ?_
  exact ⟨rfl, rfl, rfl⟩
set_option maxHeartbeats 2000000 in
set_option maxRecDepth 20000 in
theorem m_X3_factOf2 {σ : ce_S} {g : ce_D} (h : Nat) (K : ce_V) (hL : ce_LK σ h) (hr : ce_rK g h K) (hk : kv_rk K) (b : Nat) (hb : b < K 0 2) : ce_CT (ce_r 0) mX3_factOf [.ref (h), .int (nI (b)), .int (nI (2))] σ g (ce_pv (nI (K 12 b)) σ g) ce_no := by
  have hB := hk.1
  have hb1 := hk.2.1 b
  refine ce_enter (by decide) rfl (Nat.le_of_ble_eq_true rfl) (L := [some (.ref (h)), some (.int (nI (b))), some (.int (nI (2)))]) rfl ?_
  refine ce_iload_n dX3_factOf_0 rfl ?_
  refine ce_lookup (off := 41) (tgt := 42) dX3_factOf_1 (by decide) (by decide) (by decide) ?_
  refine ce_aload_n dX3_factOf_42 rfl ?_
  refine ce_getR dX3_factOf_43 fRX3_18 (hL).1 (hL).2.1.2.2 ?_
  refine ce_iload_n dX3_factOf_46 rfl ?_
  refine ce_ialdv dX3_factOf_47 ((hL).2.2.2.2).1 rfl ((hL).2.2.2.2).2 (by omega) (by decide) ((hr).2.2.2 _ (by omega)) ?_
  refine ce_iret dX3_factOf_48 rfl rfl (by decide) (by decide) ?_
  exact ⟨rfl, rfl, rfl⟩
def kv_binF (K : ce_V) (x : Int32) : Nat := if 1 ≤ x.toInt ∧ x.toInt ≤ 24 then (if K 0 2 < 8 then 0 else 3) else 2
set_option maxHeartbeats 2000000 in
set_option maxRecDepth 20000 in
theorem m_X3_binFault {σ : ce_S} {g : ce_D} (h : Nat) (K : ce_V) (hL : ce_LK σ h) (hr : ce_rK g h K) (hk : kv_rk K) (x : Int32) : ce_CT (ce_r 0) mX3_binFault [.ref (h), .int (x)] σ g (ce_pv (nI (kv_binF K x)) σ g) ce_no := by
  have hB := hk.1
  refine ce_enter (by decide) rfl (Nat.le_of_ble_eq_true rfl) (L := [some (.ref (h)), some (.int (x))]) rfl ?_
  refine ce_iload_n dX3_binFault_0 rfl ?_
  refine ce_iconst (v := nI (1)) dX3_binFault_1 (by decide) ?_
  refine ce_icmp_ltI (p := (x).toInt) (q := ((1 : Nat) : Int)) (tgt := 11) dX3_binFault_2 (by decide) rfl (nI_toInt (by omega)) (fun c_2 => ?_) (fun c_2 => ?_)
  · refine ce_iconst (v := nI (2)) dX3_binFault_11 (by decide) ?_
    refine ce_iret dX3_binFault_12 rfl rfl (by decide) (by decide) ?_
    exact ⟨congrArg (fun z => some (Value.int z)) (congrArg nI (show 2 = kv_binF K x by unfold kv_binF; split <;> (try split) <;> omega)), rfl, rfl⟩
  · refine ce_iload_n dX3_binFault_5 rfl ?_
    refine ce_bipush (v := nI (24)) dX3_binFault_6 (by decide) ?_
    refine ce_icmp_leI (p := (x).toInt) (q := ((24 : Nat) : Int)) (tgt := 13) dX3_binFault_8 (by decide) rfl (nI_toInt (by omega)) (fun c_8 => ?_) (fun c_8 => ?_)
    · refine ce_aload_n dX3_binFault_13 rfl ?_
      refine ce_getIv dX3_binFault_14 fRX3_21 (hL).1 (hr).1 ?_
      refine ce_bipush (v := nI (8)) dX3_binFault_17 (by decide) ?_
      refine ce_icmp_geN (tgt := 26) dX3_binFault_19 (by decide) rfl rfl (by omega) (by omega) (fun c_19 => ?_) (fun c_19 => ?_)
      · refine ce_iconst (v := nI (3)) dX3_binFault_26 (by decide) ?_
        refine ce_iret dX3_binFault_27 rfl rfl (by decide) (by decide) ?_
        exact ⟨congrArg (fun z => some (Value.int z)) (congrArg nI (show 3 = kv_binF K x by unfold kv_binF; split <;> (try split) <;> omega)), rfl, rfl⟩
      · refine ce_iconst (v := nI (0)) dX3_binFault_22 (by decide) ?_
        refine ce_goto (tgt := 27) dX3_binFault_23 (by decide) ?_
        refine ce_iret dX3_binFault_27 rfl rfl (by decide) (by decide) ?_
        exact ⟨congrArg (fun z => some (Value.int z)) (congrArg nI (show 0 = kv_binF K x by unfold kv_binF; split <;> (try split) <;> omega)), rfl, rfl⟩
    · refine ce_iconst (v := nI (2)) dX3_binFault_11 (by decide) ?_
      refine ce_iret dX3_binFault_12 rfl rfl (by decide) (by decide) ?_
      exact ⟨congrArg (fun z => some (Value.int z)) (congrArg nI (show 2 = kv_binF K x by unfold kv_binF; split <;> (try split) <;> omega)), rfl, rfl⟩
set_option maxHeartbeats 2000000 in
set_option maxRecDepth 20000 in
theorem m_X3_roomIn {σ : ce_S} {g : ce_D} (h : Nat) (K : ce_V) (hL : ce_LK σ h) (hr : ce_rK g h K) (hk : kv_rk K) (b : Nat) (hb : b < 8) : ce_CT (ce_r 0) mX3_roomIn [.ref (h), .int (nI (b))] σ g (ce_pv (nI (K 11 b - K 12 b)) σ g) ce_no := by
  have hB := hk.1
  have hb1 := hk.2.1 b
  refine ce_enter (by decide) rfl (Nat.le_of_ble_eq_true rfl) (L := [some (.ref (h)), some (.int (nI (b)))]) rfl ?_
  refine ce_aload_n dX3_roomIn_0 rfl ?_
  refine ce_getR dX3_roomIn_1 fRX3_9 (hL).1 (hL).2.1.1 ?_
  refine ce_iload_n dX3_roomIn_4 rfl ?_
  refine ce_ialdv dX3_roomIn_5 ((hL).2.2.1).1 rfl ((hL).2.2.1).2 (by omega) (by decide) ((hr).2.1 _ (by omega)) ?_
  refine ce_aload_n dX3_roomIn_6 rfl ?_
  refine ce_getR dX3_roomIn_7 fRX3_18 (hL).1 (hL).2.1.2.2 ?_
  refine ce_iload_n dX3_roomIn_10 rfl ?_
  refine ce_ialdv dX3_roomIn_11 ((hL).2.2.2.2).1 rfl ((hL).2.2.2.2).2 (by omega) (by decide) ((hr).2.2.2 _ (by omega)) ?_
  refine ce_isub (z := nI (K 11 (b) - (K 12 (b)))) dX3_roomIn_12 (pk_sub (by omega)) ?_
  refine ce_iret dX3_roomIn_13 rfl rfl (by decide) (by decide) ?_
  exact ⟨rfl, rfl, rfl⟩
theorem kv_emp_le (K : ce_V) : ∀ n, kv_emp K n ≤ n
  | 0 => Nat.le_refl _
  | n + 1 => by have := kv_emp_le K n; unfold kv_emp; split <;> omega
set_option maxHeartbeats 2000000 in
set_option maxRecDepth 20000 in
theorem w_X3_emptyBins {σ : ce_S} {g : ce_D} (h : Nat) (K : ce_V) (hL : ce_LK σ h) (hr : ce_rK g h K) (hk : kv_rk K) : ∀ (n9 : Nat) (i : Nat), K 0 2 - i < n9 → i ≤ K 0 2 → ce_WP (ce_r 0) mX3_emptyBins 0 0 4 [some (.ref (h)), some (.int (nI (kv_emp K i))), some (.int (nI (i)))] [] σ g (ce_pv (nI (kv_emp K (K 0 2))) σ g) ce_no := by
  intro n9
  induction n9 with
  | zero =>
    intros
    omega
  | succ n9 ih =>
    intro i hm hi
    have he := kv_emp_le K i
    have hB := hk.1
    have hi1 := hk.2.1 i
    refine ce_iload_n dX3_emptyBins_4 rfl ?_
    refine ce_aload_n dX3_emptyBins_5 rfl ?_
    refine ce_getIv dX3_emptyBins_6 fRX3_21 (hL).1 (hr).1 ?_
    refine ce_icmp_geN (tgt := 30) dX3_emptyBins_9 (by decide) rfl rfl (by omega) (by omega) (fun c_9 => ?_) (fun c_9 => ?_)
    · refine ce_iload_n dX3_emptyBins_30 rfl ?_
      refine ce_iret dX3_emptyBins_31 rfl rfl (by decide) (by decide) ?_
      exact ⟨congrArg (fun z => some (Value.int z)) (by rw [show i = K 0 2 by omega]), rfl, rfl⟩
    · refine ce_aload_n dX3_emptyBins_12 rfl ?_
      refine ce_getR dX3_emptyBins_13 fRX3_18 (hL).1 (hL).2.1.2.2 ?_
      refine ce_iload_n dX3_emptyBins_16 rfl ?_
      refine ce_ialdv dX3_emptyBins_17 ((hL).2.2.2.2).1 rfl ((hL).2.2.2.2).2 (by omega) (by decide) ((hr).2.2.2 _ (by omega)) ?_
      refine ce_if_neN (tgt := 24) dX3_emptyBins_18 (by decide) rfl (by omega) (fun c_18 => ?_) (fun c_18 => ?_)
      · refine ce_iinc (v := nI (i + 1)) dX3_emptyBins_24 rfl (ce_inc1 _) (Nat.le_of_ble_eq_true rfl) rfl ?_
        refine ce_goto (tgt := 4) dX3_emptyBins_27 (by decide) ?_
        have e9 : kv_emp K (i + 1) = kv_emp K i := by show (kv_emp K i + if K 12 i = 0 then 1 else 0) = _; rw [if_neg c_18]; rfl
        rw [← e9]
        exact ih (i + 1) (by omega) (by omega)
      · refine ce_iinc (v := nI (kv_emp K i + 1)) dX3_emptyBins_21 rfl (ce_inc1 _) (Nat.le_of_ble_eq_true rfl) rfl ?_
        refine ce_iinc (v := nI (i + 1)) dX3_emptyBins_24 rfl (ce_inc1 _) (Nat.le_of_ble_eq_true rfl) rfl ?_
        refine ce_goto (tgt := 4) dX3_emptyBins_27 (by decide) ?_
        have e9 : kv_emp K (i + 1) = kv_emp K i + 1 := by show (kv_emp K i + if K 12 i = 0 then 1 else 0) = _; rw [if_pos c_18]
        rw [← e9]
        exact ih (i + 1) (by omega) (by omega)
set_option maxHeartbeats 2000000 in
set_option maxRecDepth 20000 in
theorem m_X3_emptyBins {σ : ce_S} {g : ce_D} (h : Nat) (K : ce_V) (hL : ce_LK σ h) (hr : ce_rK g h K) (hk : kv_rk K) : ce_CT (ce_r 0) mX3_emptyBins [.ref (h)] σ g (ce_pv (nI (kv_emp K (K 0 2))) σ g) ce_no := by
  have hB := hk.1
  refine ce_enter (by decide) rfl (Nat.le_of_ble_eq_true rfl) (L := [some (.ref (h)), none, none]) rfl ?_
  refine ce_iconst (v := nI (0)) dX3_emptyBins_0 (by decide) ?_
  refine ce_istore_n dX3_emptyBins_1 (Nat.le_of_ble_eq_true rfl) rfl ?_
  refine ce_iconst (v := nI (0)) dX3_emptyBins_2 (by decide) ?_
  refine ce_istore_n dX3_emptyBins_3 (Nat.le_of_ble_eq_true rfl) rfl ?_
  exact w_X3_emptyBins h K hL hr hk (K 0 2 + 1) 0 (by omega) (by omega)
set_option maxHeartbeats 2000000 in
set_option maxRecDepth 20000 in
theorem w_X3_roomInAll {σ : ce_S} {g : ce_D} (h : Nat) (K : ce_V) (hL : ce_LK σ h) (hr : ce_rK g h K) (hk : kv_rk K) : ∀ (n9 : Nat) (i : Nat), K 0 2 - i < n9 → i ≤ K 0 2 → ce_WP (ce_r 1) mX3_roomInAll 0 0 4 [some (.ref (h)), some (.int (nI (ce_sum (fun b => K 11 b - K 12 b) i))), some (.int (nI (i)))] [] σ g (ce_pv (nI (ce_sum (fun b => K 11 b - K 12 b) (K 0 2))) σ g) ce_no := by
  intro n9
  induction n9 with
  | zero =>
    intros
    omega
  | succ n9 ih =>
    intro i hm hi
    have hB := hk.1
    have hi1 := hk.2.1 i
    refine ce_iload_n dX3_roomInAll_4 rfl ?_
    refine ce_aload_n dX3_roomInAll_5 rfl ?_
    refine ce_getIv dX3_roomInAll_6 fRX3_21 (hL).1 (hr).1 ?_
    refine ce_icmp_geN (tgt := 26) dX3_roomInAll_9 (by decide) rfl rfl (by omega) (by omega) (fun c_9 => ?_) (fun c_9 => ?_)
    · refine ce_iload_n dX3_roomInAll_26 rfl ?_
      refine ce_iret dX3_roomInAll_27 rfl rfl (by decide) (by decide) ?_
      exact ⟨congrArg (fun z => some (Value.int z)) (by rw [show i = K 0 2 by omega]), rfl, rfl⟩
    · refine ce_iload_n dX3_roomInAll_12 rfl ?_
      refine ce_aload_n dX3_roomInAll_13 rfl ?_
      refine ce_iload_n dX3_roomInAll_14 rfl ?_
      refine ce_cVp dX3_roomInAll_15 hX3_roomIn kRX3_26 (m_X3_roomIn h K hL hr hk (i) (by omega)) rfl rfl (hL).1 rfl (by decide) (Nat.le_of_ble_eq_true rfl) ?_
      refine ce_iadd (z := nI (ce_sum (fun b => K 11 b - K 12 b) (i + 1))) dX3_roomInAll_18 (nI_add _ _) ?_
      refine ce_istore_n dX3_roomInAll_19 (Nat.le_of_ble_eq_true rfl) rfl ?_
      refine ce_iinc (v := nI (i + 1)) dX3_roomInAll_20 rfl (ce_inc1 _) (Nat.le_of_ble_eq_true rfl) rfl ?_
      refine ce_goto (tgt := 4) dX3_roomInAll_23 (by decide) ?_
      exact ih (i + 1) (by omega) (by omega)
set_option maxHeartbeats 2000000 in
set_option maxRecDepth 20000 in
theorem m_X3_roomInAll {σ : ce_S} {g : ce_D} (h : Nat) (K : ce_V) (hL : ce_LK σ h) (hr : ce_rK g h K) (hk : kv_rk K) : ce_CT (ce_r 1) mX3_roomInAll [.ref (h)] σ g (ce_pv (nI (ce_sum (fun b => K 11 b - K 12 b) (K 0 2))) σ g) ce_no := by
  have hB := hk.1
  refine ce_enter (by decide) rfl (Nat.le_of_ble_eq_true rfl) (L := [some (.ref (h)), none, none]) rfl ?_
  refine ce_iconst (v := nI (0)) dX3_roomInAll_0 (by decide) ?_
  refine ce_istore_n dX3_roomInAll_1 (Nat.le_of_ble_eq_true rfl) rfl ?_
  refine ce_iconst (v := nI (0)) dX3_roomInAll_2 (by decide) ?_
  refine ce_istore_n dX3_roomInAll_3 (Nat.le_of_ble_eq_true rfl) rfl ?_
  exact w_X3_roomInAll h K hL hr hk (K 0 2 + 1) 0 (by omega) (by omega)
set_option maxHeartbeats 2000000 in
set_option maxRecDepth 20000 in
theorem m_X3_takesWine {σ : ce_S} {g : ce_D} (h : Nat) (K : ce_V) (hL : ce_LK σ h) (hr : ce_rK g h K) (hk : kv_rk K) (b : Nat) (x : Int32) (hb : b < K 0 2) : ce_CT (ce_r 0) mX3_takesWine [.ref (h), .int (nI (b)), .int (x)] σ g (ce_pv (if K 12 b = 0 ∨ ce_wi K b = x then 1 else 0) σ g) ce_no := by
  have hB := hk.1
  have hb1 := hk.2.1 b
  refine ce_enter (by decide) rfl (Nat.le_of_ble_eq_true rfl) (L := [some (.ref (h)), some (.int (nI (b))), some (.int (x))]) rfl ?_
  refine ce_aload_n dX3_takesWine_0 rfl ?_
  refine ce_getR dX3_takesWine_1 fRX3_18 (hL).1 (hL).2.1.2.2 ?_
  refine ce_iload_n dX3_takesWine_4 rfl ?_
  refine ce_ialdv dX3_takesWine_5 ((hL).2.2.2.2).1 rfl ((hL).2.2.2.2).2 (by omega) (by decide) ((hr).2.2.2 _ (by omega)) ?_
  refine ce_if_eqN (tgt := 19) dX3_takesWine_6 (by decide) rfl (by omega) (fun c_6 => ?_) (fun c_6 => ?_)
  · refine ce_iconst (v := nI (1)) dX3_takesWine_19 (by decide) ?_
    refine ce_goto (tgt := 24) dX3_takesWine_20 (by decide) ?_
    refine ce_iret dX3_takesWine_24 rfl (by first | rfl | decide | assumption) (by decide) (by decide) ?_
    exact ⟨congrArg (fun z => some (Value.int z)) ((if_pos (by first | exact Or.inl (by omega) | exact Or.inr (Int32.toInt_inj.mp c_16))).symm), rfl, rfl⟩
  · refine ce_aload_n dX3_takesWine_9 rfl ?_
    refine ce_getR dX3_takesWine_10 fRX3_15 (hL).1 (hL).2.1.2.1 ?_
    refine ce_iload_n dX3_takesWine_13 rfl ?_
    refine ce_ialdv dX3_takesWine_14 ((hL).2.2.2.1).1 rfl ((hL).2.2.2.1).2 (by omega) (by decide) ((hr).2.2.1 _ (by omega)) ?_
    refine ce_iload_n dX3_takesWine_15 rfl ?_
    refine ce_icmp_neI (p := (ce_wi K (b)).toInt) (q := (x).toInt) (tgt := 23) dX3_takesWine_16 (by decide) rfl rfl (fun c_16 => ?_) (fun c_16 => ?_)
    · refine ce_iconst (v := nI (0)) dX3_takesWine_23 (by decide) ?_
      refine ce_iret dX3_takesWine_24 rfl (by first | rfl | decide | assumption) (by decide) (by decide) ?_
      exact ⟨congrArg (fun z => some (Value.int z)) ((if_neg (by rintro (e | e); omega; exact c_16 (congrArg Int32.toInt e))).symm), rfl, rfl⟩
    · refine ce_iconst (v := nI (1)) dX3_takesWine_19 (by decide) ?_
      refine ce_goto (tgt := 24) dX3_takesWine_20 (by decide) ?_
      refine ce_iret dX3_takesWine_24 rfl (by first | rfl | decide | assumption) (by decide) (by decide) ?_
      exact ⟨congrArg (fun z => some (Value.int z)) ((if_pos (by first | exact Or.inl (by omega) | exact Or.inr (Int32.toInt_inj.mp c_16))).symm), rfl, rfl⟩
theorem ce_wi_w {K : ce_V} (hk : kv_rk K) {b w : Nat} (hw : w < 6) : (K 12 b = 0 ∨ ce_wi K b = nI w) ↔ (K 12 b = 0 ∨ K 13 b = w + 1) := by
  unfold ce_wi
  by_cases h : K 12 b = 0
  · simp [h]
  · have h1 := hk.2.2.2.1 b (by omega)
    rw [if_neg h, nI_eq (by omega) (by omega)]
    omega
theorem ce_wi_w2 {K : ce_V} (hk : kv_rk K) {b w : Nat} (hw : w < 6) (h : 0 < K 12 b) : (ce_wi K b).toInt = ((w : Nat) : Int) ↔ K 13 b = w + 1 := by
  have h1 := hk.2.2.2.1 b h
  unfold ce_wi
  rw [if_neg (by omega), nI_toInt (by omega)]
  omega
set_option maxHeartbeats 2000000 in
set_option maxRecDepth 20000 in
theorem w_X3_roomForWine {σ : ce_S} {g : ce_D} (h : Nat) (K : ce_V) (hL : ce_LK σ h) (hr : ce_rK g h K) (hk : kv_rk K) (w : Nat) (hw : w < 6) : ∀ (n9 : Nat) (i : Nat), K 0 2 - i < n9 → i ≤ K 0 2 → ce_WP (ce_r 1) mX3_roomForWine 0 0 4 [some (.ref (h)), some (.int (nI (w))), some (.int (nI (ce_sum (kv_room K w) i))), some (.int (nI (i)))] [] σ g (ce_pv (nI (ce_sum (kv_room K w) (K 0 2))) σ g) ce_no := by
  intro n9
  induction n9 with
  | zero =>
    intros
    omega
  | succ n9 ih =>
    intro i hm hi
    have hB := hk.1
    have hi1 := hk.2.1 i
    refine ce_iload_n dX3_roomForWine_4 rfl ?_
    refine ce_aload_n dX3_roomForWine_5 rfl ?_
    refine ce_getIv dX3_roomForWine_6 fRX3_21 (hL).1 (hr).1 ?_
    refine ce_icmp_geN (tgt := 35) dX3_roomForWine_9 (by decide) rfl rfl (by omega) (by omega) (fun c_9 => ?_) (fun c_9 => ?_)
    · refine ce_iload_n dX3_roomForWine_35 rfl ?_
      refine ce_iret dX3_roomForWine_36 rfl rfl (by decide) (by decide) ?_
      exact ⟨congrArg (fun z => some (Value.int z)) (by rw [show i = K 0 2 by omega]), rfl, rfl⟩
    · refine ce_aload_n dX3_roomForWine_12 rfl ?_
      refine ce_iload_n dX3_roomForWine_13 rfl ?_
      refine ce_iload_n dX3_roomForWine_14 rfl ?_
      refine ce_cVp dX3_roomForWine_15 hX3_takesWine kRX3_30 (m_X3_takesWine h K hL hr hk (i) (nI (w)) (by omega)) rfl rfl (hL).1 rfl (by decide) (Nat.le_of_ble_eq_true rfl) ?_
      refine ce_if_eqB (tgt := 29) dX3_roomForWine_18 (by decide) rfl (fun c_18 => ?_) (fun c_18 => ?_)
      · refine ce_iinc (v := nI (i + 1)) dX3_roomForWine_29 rfl (ce_inc1 _) (Nat.le_of_ble_eq_true rfl) rfl ?_
        refine ce_goto (tgt := 4) dX3_roomForWine_32 (by decide) ?_
        have e9 : ce_sum (kv_room K w) (i + 1) = ce_sum (kv_room K w) i := by
          rw [ce_wi_w hk hw] at c_18
          rw [ce_sum, kv_room, if_neg c_18]
          omega
        rw [← e9]
        exact ih (i + 1) (by omega) (by omega)
      · refine ce_iload_n dX3_roomForWine_21 rfl ?_
        refine ce_aload_n dX3_roomForWine_22 rfl ?_
        refine ce_iload_n dX3_roomForWine_23 rfl ?_
        refine ce_cVp dX3_roomForWine_24 hX3_roomIn kRX3_26 (m_X3_roomIn h K hL hr hk (i) (by omega)) rfl rfl (hL).1 rfl (by decide) (Nat.le_of_ble_eq_true rfl) ?_
        refine ce_iadd (z := nI (ce_sum (kv_room K w) i + (K 11 (i) - K 12 (i)))) dX3_roomForWine_27 (nI_add _ _) ?_
        refine ce_istore_n dX3_roomForWine_28 (Nat.le_of_ble_eq_true rfl) rfl ?_
        refine ce_iinc (v := nI (i + 1)) dX3_roomForWine_29 rfl (ce_inc1 _) (Nat.le_of_ble_eq_true rfl) rfl ?_
        refine ce_goto (tgt := 4) dX3_roomForWine_32 (by decide) ?_
        have e9 : ce_sum (kv_room K w) (i + 1) = ce_sum (kv_room K w) i + (K 11 (i) - K 12 (i)) := by
          rw [ce_wi_w hk hw] at c_18
          rw [ce_sum, kv_room, if_pos c_18]
        rw [← e9]
        exact ih (i + 1) (by omega) (by omega)
set_option maxHeartbeats 2000000 in
set_option maxRecDepth 20000 in
theorem m_X3_roomForWine {σ : ce_S} {g : ce_D} (h : Nat) (K : ce_V) (hL : ce_LK σ h) (hr : ce_rK g h K) (hk : kv_rk K) (w : Nat) (hw : w < 6) : ce_CT (ce_r 1) mX3_roomForWine [.ref (h), .int (nI (w))] σ g (ce_pv (nI (ce_sum (kv_room K w) (K 0 2))) σ g) ce_no := by
  have hB := hk.1
  refine ce_enter (by decide) rfl (Nat.le_of_ble_eq_true rfl) (L := [some (.ref (h)), some (.int (nI (w))), none, none]) rfl ?_
  refine ce_iconst (v := nI (0)) dX3_roomForWine_0 (by decide) ?_
  refine ce_istore_n dX3_roomForWine_1 (Nat.le_of_ble_eq_true rfl) rfl ?_
  refine ce_iconst (v := nI (0)) dX3_roomForWine_2 (by decide) ?_
  refine ce_istore_n dX3_roomForWine_3 (Nat.le_of_ble_eq_true rfl) rfl ?_
  exact w_X3_roomForWine h K hL hr hk w hw (K 0 2 + 1) 0 (by omega) (by omega)
set_option maxHeartbeats 2000000 in
set_option maxRecDepth 20000 in
theorem w_X3_binToFillUp {σ : ce_S} {g : ce_D} (h : Nat) (K : ce_V) (hL : ce_LK σ h) (hr : ce_rK g h K) (hk : kv_rk K) (w : Nat) (hw : w < 6) : ∀ (n9 : Nat) (i : Nat), K 0 2 - i < n9 → i ≤ K 0 2 → ce_WP (ce_r 1) mX3_binToFillUp 0 0 5 [some (.ref (h)), some (.int (nI (w))), some (.int (ce_o (kv_fill K w i))), some (.int (nI (i))), none] [] σ g (ce_pv (ce_o (kv_fill K w (K 0 2))) σ g) ce_no := by
  intro n9
  induction n9 with
  | zero =>
    intros
    omega
  | succ n9 ih =>
    intro i hm hi
    have hB := hk.1
    have hi1 := hk.2.1 i
    cases hp : kv_fill K w i with
    | none =>
      show ce_WP (ce_r 1) mX3_binToFillUp 0 0 5 [some (.ref (h)), some (.int (nI (w))), some (.int ((-99999))), some (.int (nI (i))), none] [] σ g (ce_pv (ce_o (kv_fill K w (K 0 2))) σ g) ce_no
      refine ce_iload_n dX3_binToFillUp_5 rfl ?_
      refine ce_aload_n dX3_binToFillUp_6 rfl ?_
      refine ce_getIv dX3_binToFillUp_7 fRX3_21 (hL).1 (hr).1 ?_
      refine ce_icmp_geN (tgt := 79) dX3_binToFillUp_10 (by decide) rfl rfl (by omega) (by omega) (fun c_10 => ?_) (fun c_10 => ?_)
      · refine ce_iload_n dX3_binToFillUp_79 rfl ?_
        refine ce_iret dX3_binToFillUp_80 rfl rfl (by decide) (by decide) ?_
        exact ⟨congrArg (fun z => some (Value.int z)) (by rw [show i = K 0 2 by omega] at hp; rw [hp]; rfl), rfl, rfl⟩
      · refine ce_aload_n dX3_binToFillUp_13 rfl ?_
        refine ce_getR dX3_binToFillUp_14 fRX3_18 (hL).1 (hL).2.1.2.2 ?_
        refine ce_iload_n dX3_binToFillUp_17 rfl ?_
        refine ce_ialdv dX3_binToFillUp_18 ((hL).2.2.2.2).1 rfl ((hL).2.2.2.2).2 (by omega) (by decide) ((hr).2.2.2 _ (by omega)) ?_
        refine ce_if_leN (tgt := 44) dX3_binToFillUp_19 (by decide) rfl (by omega) (fun c_19 => ?_) (fun c_19 => ?_)
        · refine ce_iconst (v := nI (0)) dX3_binToFillUp_44 (by decide) ?_
          refine ce_istore dX3_binToFillUp_45 (Nat.le_of_ble_eq_true rfl) rfl ?_
          refine ce_iload dX3_binToFillUp_47 rfl ?_
          refine ce_if_eqN (tgt := 73) dX3_binToFillUp_49 (by decide) rfl (by omega) (fun c_49 => ?_) (fun c_49 => ?_)
          · refine ce_iinc (v := nI (i + 1)) dX3_binToFillUp_73 rfl (ce_inc1 _) (Nat.le_of_ble_eq_true rfl) rfl ?_
            refine ce_goto (tgt := 5) dX3_binToFillUp_76 (by decide) ?_
            refine ce_drop (L' := [some (.ref (h)), some (.int (nI (w))), some (.int ((-99999))), some (.int (nI (i + 1))), none]) (ce_le_s rfl (ce_le_s rfl (ce_le_s rfl (ce_le_s rfl (ce_le_n ce_le_e))))) ?_
            have e9 : kv_fill K w (i + 1) = none := by
              unfold kv_fill
              rw [hp]
              dsimp only
              (repeat' split) <;> first | rfl | (exfalso; omega)
            have e8 := ih (i + 1) (by omega) (by omega)
            rw [e9] at e8
            exact e8
          · omega
        · refine ce_aload_n dX3_binToFillUp_22 rfl ?_
          refine ce_getR dX3_binToFillUp_23 fRX3_15 (hL).1 (hL).2.1.2.1 ?_
          refine ce_iload_n dX3_binToFillUp_26 rfl ?_
          refine ce_ialdv dX3_binToFillUp_27 ((hL).2.2.2.1).1 rfl ((hL).2.2.2.1).2 (by omega) (by decide) ((hr).2.2.1 _ (by omega)) ?_
          refine ce_iload_n dX3_binToFillUp_28 rfl ?_
          refine ce_icmp_neI (p := (ce_wi K (i)).toInt) (q := ((w : Nat) : Int)) (tgt := 44) dX3_binToFillUp_29 (by decide) rfl (nI_toInt (by omega)) (fun c_29 => ?_) (fun c_29 => ?_)
          · rw [ne_eq, ce_wi_w2 hk hw c_19] at c_29
            refine ce_iconst (v := nI (0)) dX3_binToFillUp_44 (by decide) ?_
            refine ce_istore dX3_binToFillUp_45 (Nat.le_of_ble_eq_true rfl) rfl ?_
            refine ce_iload dX3_binToFillUp_47 rfl ?_
            refine ce_if_eqN (tgt := 73) dX3_binToFillUp_49 (by decide) rfl (by omega) (fun c_49 => ?_) (fun c_49 => ?_)
            · refine ce_iinc (v := nI (i + 1)) dX3_binToFillUp_73 rfl (ce_inc1 _) (Nat.le_of_ble_eq_true rfl) rfl ?_
              refine ce_goto (tgt := 5) dX3_binToFillUp_76 (by decide) ?_
              refine ce_drop (L' := [some (.ref (h)), some (.int (nI (w))), some (.int ((-99999))), some (.int (nI (i + 1))), none]) (ce_le_s rfl (ce_le_s rfl (ce_le_s rfl (ce_le_s rfl (ce_le_n ce_le_e))))) ?_
              have e9 : kv_fill K w (i + 1) = none := by
                unfold kv_fill
                rw [hp]
                dsimp only
                (repeat' split) <;> first | rfl | (exfalso; omega)
              have e8 := ih (i + 1) (by omega) (by omega)
              rw [e9] at e8
              exact e8
            · omega
          · rw [ce_wi_w2 hk hw c_19] at c_29
            refine ce_aload_n dX3_binToFillUp_32 rfl ?_
            refine ce_iload_n dX3_binToFillUp_33 rfl ?_
            refine ce_cVp dX3_binToFillUp_34 hX3_roomIn kRX3_26 (m_X3_roomIn h K hL hr hk (i) (by omega)) rfl rfl (hL).1 rfl (by decide) (Nat.le_of_ble_eq_true rfl) ?_
            refine ce_if_leN (tgt := 44) dX3_binToFillUp_37 (by decide) rfl (by omega) (fun c_37 => ?_) (fun c_37 => ?_)
            · refine ce_iconst (v := nI (0)) dX3_binToFillUp_44 (by decide) ?_
              refine ce_istore dX3_binToFillUp_45 (Nat.le_of_ble_eq_true rfl) rfl ?_
              refine ce_iload dX3_binToFillUp_47 rfl ?_
              refine ce_if_eqN (tgt := 73) dX3_binToFillUp_49 (by decide) rfl (by omega) (fun c_49 => ?_) (fun c_49 => ?_)
              · refine ce_iinc (v := nI (i + 1)) dX3_binToFillUp_73 rfl (ce_inc1 _) (Nat.le_of_ble_eq_true rfl) rfl ?_
                refine ce_goto (tgt := 5) dX3_binToFillUp_76 (by decide) ?_
                refine ce_drop (L' := [some (.ref (h)), some (.int (nI (w))), some (.int ((-99999))), some (.int (nI (i + 1))), none]) (ce_le_s rfl (ce_le_s rfl (ce_le_s rfl (ce_le_s rfl (ce_le_n ce_le_e))))) ?_
                have e9 : kv_fill K w (i + 1) = none := by
                  unfold kv_fill
                  rw [hp]
                  dsimp only
                  (repeat' split) <;> first | rfl | (exfalso; omega)
                have e8 := ih (i + 1) (by omega) (by omega)
                rw [e9] at e8
                exact e8
              · omega
            · refine ce_iconst (v := nI (1)) dX3_binToFillUp_40 (by decide) ?_
              refine ce_goto (tgt := 45) dX3_binToFillUp_41 (by decide) ?_
              refine ce_istore dX3_binToFillUp_45 (Nat.le_of_ble_eq_true rfl) rfl ?_
              refine ce_iload dX3_binToFillUp_47 rfl ?_
              refine ce_if_eqN (tgt := 73) dX3_binToFillUp_49 (by decide) rfl (by omega) (fun c_49 => ?_) (fun c_49 => ?_)
              · omega
              · refine ce_iload_n dX3_binToFillUp_52 rfl ?_
                refine ce_ldc dX3_binToFillUp_53 kRX3_25 ?_
                refine ce_icmp_eqI (p := (-99999)) (q := (-99999)) (tgt := 71) dX3_binToFillUp_55 (by decide) (by decide) (by decide) (fun c_55 => ?_) (fun c_55 => ?_)
                · refine ce_iload_n dX3_binToFillUp_71 rfl ?_
                  refine ce_istore_n dX3_binToFillUp_72 (Nat.le_of_ble_eq_true rfl) rfl ?_
                  refine ce_iinc (v := nI (i + 1)) dX3_binToFillUp_73 rfl (ce_inc1 _) (Nat.le_of_ble_eq_true rfl) rfl ?_
                  refine ce_goto (tgt := 5) dX3_binToFillUp_76 (by decide) ?_
                  refine ce_drop (L' := [some (.ref (h)), some (.int (nI (w))), some (.int (nI (i))), some (.int (nI (i + 1))), none]) (ce_le_s rfl (ce_le_s rfl (ce_le_s rfl (ce_le_s rfl (ce_le_n ce_le_e))))) ?_
                  have e9 : kv_fill K w (i + 1) = some (i) := by
                    unfold kv_fill
                    rw [hp]
                    dsimp only
                    (repeat' split) <;> first | rfl | (exfalso; omega)
                  have e8 := ih (i + 1) (by omega) (by omega)
                  rw [e9] at e8
                  exact e8
                · omega
    | some c =>
      have hc := kv_fill_lt hp
      have hc1 := hk.2.1 c
      show ce_WP (ce_r 1) mX3_binToFillUp 0 0 5 [some (.ref (h)), some (.int (nI (w))), some (.int (nI (c))), some (.int (nI (i))), none] [] σ g (ce_pv (ce_o (kv_fill K w (K 0 2))) σ g) ce_no
      refine ce_iload_n dX3_binToFillUp_5 rfl ?_
      refine ce_aload_n dX3_binToFillUp_6 rfl ?_
      refine ce_getIv dX3_binToFillUp_7 fRX3_21 (hL).1 (hr).1 ?_
      refine ce_icmp_geN (tgt := 79) dX3_binToFillUp_10 (by decide) rfl rfl (by omega) (by omega) (fun c_10 => ?_) (fun c_10 => ?_)
      · refine ce_iload_n dX3_binToFillUp_79 rfl ?_
        refine ce_iret dX3_binToFillUp_80 rfl rfl (by decide) (by decide) ?_
        exact ⟨congrArg (fun z => some (Value.int z)) (by rw [show i = K 0 2 by omega] at hp; rw [hp]; rfl), rfl, rfl⟩
      · refine ce_aload_n dX3_binToFillUp_13 rfl ?_
        refine ce_getR dX3_binToFillUp_14 fRX3_18 (hL).1 (hL).2.1.2.2 ?_
        refine ce_iload_n dX3_binToFillUp_17 rfl ?_
        refine ce_ialdv dX3_binToFillUp_18 ((hL).2.2.2.2).1 rfl ((hL).2.2.2.2).2 (by omega) (by decide) ((hr).2.2.2 _ (by omega)) ?_
        refine ce_if_leN (tgt := 44) dX3_binToFillUp_19 (by decide) rfl (by omega) (fun c_19 => ?_) (fun c_19 => ?_)
        · refine ce_iconst (v := nI (0)) dX3_binToFillUp_44 (by decide) ?_
          refine ce_istore dX3_binToFillUp_45 (Nat.le_of_ble_eq_true rfl) rfl ?_
          refine ce_iload dX3_binToFillUp_47 rfl ?_
          refine ce_if_eqN (tgt := 73) dX3_binToFillUp_49 (by decide) rfl (by omega) (fun c_49 => ?_) (fun c_49 => ?_)
          · refine ce_iinc (v := nI (i + 1)) dX3_binToFillUp_73 rfl (ce_inc1 _) (Nat.le_of_ble_eq_true rfl) rfl ?_
            refine ce_goto (tgt := 5) dX3_binToFillUp_76 (by decide) ?_
            refine ce_drop (L' := [some (.ref (h)), some (.int (nI (w))), some (.int (nI (c))), some (.int (nI (i + 1))), none]) (ce_le_s rfl (ce_le_s rfl (ce_le_s rfl (ce_le_s rfl (ce_le_n ce_le_e))))) ?_
            have e9 : kv_fill K w (i + 1) = some (c) := by
              unfold kv_fill
              rw [hp]
              dsimp only
              (repeat' split) <;> first | rfl | (exfalso; omega)
            have e8 := ih (i + 1) (by omega) (by omega)
            rw [e9] at e8
            exact e8
          · omega
        · refine ce_aload_n dX3_binToFillUp_22 rfl ?_
          refine ce_getR dX3_binToFillUp_23 fRX3_15 (hL).1 (hL).2.1.2.1 ?_
          refine ce_iload_n dX3_binToFillUp_26 rfl ?_
          refine ce_ialdv dX3_binToFillUp_27 ((hL).2.2.2.1).1 rfl ((hL).2.2.2.1).2 (by omega) (by decide) ((hr).2.2.1 _ (by omega)) ?_
          refine ce_iload_n dX3_binToFillUp_28 rfl ?_
          refine ce_icmp_neI (p := (ce_wi K (i)).toInt) (q := ((w : Nat) : Int)) (tgt := 44) dX3_binToFillUp_29 (by decide) rfl (nI_toInt (by omega)) (fun c_29 => ?_) (fun c_29 => ?_)
          · rw [ne_eq, ce_wi_w2 hk hw c_19] at c_29
            refine ce_iconst (v := nI (0)) dX3_binToFillUp_44 (by decide) ?_
            refine ce_istore dX3_binToFillUp_45 (Nat.le_of_ble_eq_true rfl) rfl ?_
            refine ce_iload dX3_binToFillUp_47 rfl ?_
            refine ce_if_eqN (tgt := 73) dX3_binToFillUp_49 (by decide) rfl (by omega) (fun c_49 => ?_) (fun c_49 => ?_)
            · refine ce_iinc (v := nI (i + 1)) dX3_binToFillUp_73 rfl (ce_inc1 _) (Nat.le_of_ble_eq_true rfl) rfl ?_
              refine ce_goto (tgt := 5) dX3_binToFillUp_76 (by decide) ?_
              refine ce_drop (L' := [some (.ref (h)), some (.int (nI (w))), some (.int (nI (c))), some (.int (nI (i + 1))), none]) (ce_le_s rfl (ce_le_s rfl (ce_le_s rfl (ce_le_s rfl (ce_le_n ce_le_e))))) ?_
              have e9 : kv_fill K w (i + 1) = some (c) := by
                unfold kv_fill
                rw [hp]
                dsimp only
                (repeat' split) <;> first | rfl | (exfalso; omega)
              have e8 := ih (i + 1) (by omega) (by omega)
              rw [e9] at e8
              exact e8
            · omega
          · rw [ce_wi_w2 hk hw c_19] at c_29
            refine ce_aload_n dX3_binToFillUp_32 rfl ?_
            refine ce_iload_n dX3_binToFillUp_33 rfl ?_
            refine ce_cVp dX3_binToFillUp_34 hX3_roomIn kRX3_26 (m_X3_roomIn h K hL hr hk (i) (by omega)) rfl rfl (hL).1 rfl (by decide) (Nat.le_of_ble_eq_true rfl) ?_
            refine ce_if_leN (tgt := 44) dX3_binToFillUp_37 (by decide) rfl (by omega) (fun c_37 => ?_) (fun c_37 => ?_)
            · refine ce_iconst (v := nI (0)) dX3_binToFillUp_44 (by decide) ?_
              refine ce_istore dX3_binToFillUp_45 (Nat.le_of_ble_eq_true rfl) rfl ?_
              refine ce_iload dX3_binToFillUp_47 rfl ?_
              refine ce_if_eqN (tgt := 73) dX3_binToFillUp_49 (by decide) rfl (by omega) (fun c_49 => ?_) (fun c_49 => ?_)
              · refine ce_iinc (v := nI (i + 1)) dX3_binToFillUp_73 rfl (ce_inc1 _) (Nat.le_of_ble_eq_true rfl) rfl ?_
                refine ce_goto (tgt := 5) dX3_binToFillUp_76 (by decide) ?_
                refine ce_drop (L' := [some (.ref (h)), some (.int (nI (w))), some (.int (nI (c))), some (.int (nI (i + 1))), none]) (ce_le_s rfl (ce_le_s rfl (ce_le_s rfl (ce_le_s rfl (ce_le_n ce_le_e))))) ?_
                have e9 : kv_fill K w (i + 1) = some (c) := by
                  unfold kv_fill
                  rw [hp]
                  dsimp only
                  (repeat' split) <;> first | rfl | (exfalso; omega)
                have e8 := ih (i + 1) (by omega) (by omega)
                rw [e9] at e8
                exact e8
              · omega
            · refine ce_iconst (v := nI (1)) dX3_binToFillUp_40 (by decide) ?_
              refine ce_goto (tgt := 45) dX3_binToFillUp_41 (by decide) ?_
              refine ce_istore dX3_binToFillUp_45 (Nat.le_of_ble_eq_true rfl) rfl ?_
              refine ce_iload dX3_binToFillUp_47 rfl ?_
              refine ce_if_eqN (tgt := 73) dX3_binToFillUp_49 (by decide) rfl (by omega) (fun c_49 => ?_) (fun c_49 => ?_)
              · omega
              · refine ce_iload_n dX3_binToFillUp_52 rfl ?_
                refine ce_ldc dX3_binToFillUp_53 kRX3_25 ?_
                refine ce_icmp_eqI (p := ((c : Nat) : Int)) (q := (-99999)) (tgt := 71) dX3_binToFillUp_55 (by decide) (nI_toInt (by omega)) (by decide) (fun c_55 => ?_) (fun c_55 => ?_)
                · omega
                · refine ce_aload_n dX3_binToFillUp_58 rfl ?_
                  refine ce_iload_n dX3_binToFillUp_59 rfl ?_
                  refine ce_cVp dX3_binToFillUp_60 hX3_roomIn kRX3_26 (m_X3_roomIn h K hL hr hk (i) (by omega)) rfl rfl (hL).1 rfl (by decide) (Nat.le_of_ble_eq_true rfl) ?_
                  refine ce_aload_n dX3_binToFillUp_63 rfl ?_
                  refine ce_iload_n dX3_binToFillUp_64 rfl ?_
                  refine ce_cVp dX3_binToFillUp_65 hX3_roomIn kRX3_26 (m_X3_roomIn h K hL hr hk (c) (by omega)) rfl rfl (hL).1 rfl (by decide) (Nat.le_of_ble_eq_true rfl) ?_
                  refine ce_icmp_geN (tgt := 73) dX3_binToFillUp_68 (by decide) rfl rfl (by omega) (by omega) (fun c_68 => ?_) (fun c_68 => ?_)
                  · refine ce_iinc (v := nI (i + 1)) dX3_binToFillUp_73 rfl (ce_inc1 _) (Nat.le_of_ble_eq_true rfl) rfl ?_
                    refine ce_goto (tgt := 5) dX3_binToFillUp_76 (by decide) ?_
                    refine ce_drop (L' := [some (.ref (h)), some (.int (nI (w))), some (.int (nI (c))), some (.int (nI (i + 1))), none]) (ce_le_s rfl (ce_le_s rfl (ce_le_s rfl (ce_le_s rfl (ce_le_n ce_le_e))))) ?_
                    have e9 : kv_fill K w (i + 1) = some (c) := by
                      unfold kv_fill
                      rw [hp]
                      dsimp only
                      (repeat' split) <;> first | rfl | (exfalso; omega)
                    have e8 := ih (i + 1) (by omega) (by omega)
                    rw [e9] at e8
                    exact e8
                  · refine ce_iload_n dX3_binToFillUp_71 rfl ?_
                    refine ce_istore_n dX3_binToFillUp_72 (Nat.le_of_ble_eq_true rfl) rfl ?_
                    refine ce_iinc (v := nI (i + 1)) dX3_binToFillUp_73 rfl (ce_inc1 _) (Nat.le_of_ble_eq_true rfl) rfl ?_
                    refine ce_goto (tgt := 5) dX3_binToFillUp_76 (by decide) ?_
                    refine ce_drop (L' := [some (.ref (h)), some (.int (nI (w))), some (.int (nI (i))), some (.int (nI (i + 1))), none]) (ce_le_s rfl (ce_le_s rfl (ce_le_s rfl (ce_le_s rfl (ce_le_n ce_le_e))))) ?_
                    have e9 : kv_fill K w (i + 1) = some (i) := by
                      unfold kv_fill
                      rw [hp]
                      dsimp only
                      (repeat' split) <;> first | rfl | (exfalso; omega)
                    have e8 := ih (i + 1) (by omega) (by omega)
                    rw [e9] at e8
                    exact e8
set_option maxHeartbeats 2000000 in
set_option maxRecDepth 20000 in
theorem m_X3_binToFillUp {σ : ce_S} {g : ce_D} (h : Nat) (K : ce_V) (hL : ce_LK σ h) (hr : ce_rK g h K) (hk : kv_rk K) (w : Nat) (hw : w < 6) : ce_CT (ce_r 1) mX3_binToFillUp [.ref (h), .int (nI (w))] σ g (ce_pv (ce_o (kv_fill K w (K 0 2))) σ g) ce_no := by
  have hB := hk.1
  refine ce_enter (by decide) rfl (Nat.le_of_ble_eq_true rfl) (L := [some (.ref (h)), some (.int (nI (w))), none, none, none]) rfl ?_
  refine ce_ldc dX3_binToFillUp_0 kRX3_25 ?_
  refine ce_istore_n dX3_binToFillUp_2 (Nat.le_of_ble_eq_true rfl) rfl ?_
  refine ce_iconst (v := nI (0)) dX3_binToFillUp_3 (by decide) ?_
  refine ce_istore_n dX3_binToFillUp_4 (Nat.le_of_ble_eq_true rfl) rfl ?_
  exact w_X3_binToFillUp h K hL hr hk w hw (K 0 2 + 1) 0 (by omega) (by omega)
set_option maxHeartbeats 2000000 in
set_option maxRecDepth 20000 in
theorem m_X3_suitsBetter {σ : ce_S} {g : ce_D} (x y q : Nat) (hx : x < 1000) (hy : y < 1000) (hq : q < 100000) : ce_CT (ce_r 0) mX3_suitsBetter [.int (nI (x)), .int (nI (y)), .int (nI (q))] σ g (ce_pv (if (q ≤ y ∧ q ≤ x ∧ x < y) ∨ (y < q ∧ y < x) then 1 else 0) σ g) ce_no := by
  refine ce_enter (by decide) rfl (Nat.le_of_ble_eq_true rfl) (L := [some (.int (nI (x))), some (.int (nI (y))), some (.int (nI (q)))]) rfl ?_
  refine ce_iload_n dX3_suitsBetter_0 rfl ?_
  refine ce_iload_n dX3_suitsBetter_1 rfl ?_
  refine ce_icmp_ltN (tgt := 21) dX3_suitsBetter_2 (by decide) rfl rfl (by omega) (by omega) (fun c_2 => ?_) (fun c_2 => ?_)
  · refine ce_iload_n dX3_suitsBetter_21 rfl ?_
    refine ce_iload_n dX3_suitsBetter_22 rfl ?_
    refine ce_icmp_leN (tgt := 30) dX3_suitsBetter_23 (by decide) rfl rfl (by omega) (by omega) (fun c_23 => ?_) (fun c_23 => ?_)
    · refine ce_iconst (v := nI (0)) dX3_suitsBetter_30 (by decide) ?_
      refine ce_iret dX3_suitsBetter_31 rfl (by first | rfl | decide | assumption) (by decide) (by decide) ?_
      exact ⟨congrArg (fun z => some (Value.int z)) ((if_neg (by omega)).symm), rfl, rfl⟩
    · refine ce_iconst (v := nI (1)) dX3_suitsBetter_26 (by decide) ?_
      refine ce_goto (tgt := 31) dX3_suitsBetter_27 (by decide) ?_
      refine ce_iret dX3_suitsBetter_31 rfl (by first | rfl | decide | assumption) (by decide) (by decide) ?_
      exact ⟨congrArg (fun z => some (Value.int z)) ((if_pos (by omega)).symm), rfl, rfl⟩
  · refine ce_iload_n dX3_suitsBetter_5 rfl ?_
    refine ce_iload_n dX3_suitsBetter_6 rfl ?_
    refine ce_icmp_ltN (tgt := 19) dX3_suitsBetter_7 (by decide) rfl rfl (by omega) (by omega) (fun c_7 => ?_) (fun c_7 => ?_)
    · refine ce_iconst (v := nI (0)) dX3_suitsBetter_19 (by decide) ?_
      refine ce_iret dX3_suitsBetter_20 rfl (by first | rfl | decide | assumption) (by decide) (by decide) ?_
      exact ⟨congrArg (fun z => some (Value.int z)) ((if_neg (by omega)).symm), rfl, rfl⟩
    · refine ce_iload_n dX3_suitsBetter_10 rfl ?_
      refine ce_iload_n dX3_suitsBetter_11 rfl ?_
      refine ce_icmp_geN (tgt := 19) dX3_suitsBetter_12 (by decide) rfl rfl (by omega) (by omega) (fun c_12 => ?_) (fun c_12 => ?_)
      · refine ce_iconst (v := nI (0)) dX3_suitsBetter_19 (by decide) ?_
        refine ce_iret dX3_suitsBetter_20 rfl (by first | rfl | decide | assumption) (by decide) (by decide) ?_
        exact ⟨congrArg (fun z => some (Value.int z)) ((if_neg (by omega)).symm), rfl, rfl⟩
      · refine ce_iconst (v := nI (1)) dX3_suitsBetter_15 (by decide) ?_
        refine ce_goto (tgt := 20) dX3_suitsBetter_16 (by decide) ?_
        refine ce_iret dX3_suitsBetter_20 rfl (by first | rfl | decide | assumption) (by decide) (by decide) ?_
        exact ⟨congrArg (fun z => some (Value.int z)) ((if_pos (by omega)).symm), rfl, rfl⟩
set_option maxHeartbeats 2000000 in
set_option maxRecDepth 20000 in
theorem w_X3_emptyBinFor {σ : ce_S} {g : ce_D} (h : Nat) (K : ce_V) (hL : ce_LK σ h) (hr : ce_rK g h K) (hk : kv_rk K) (q : Nat) (hq : q < 100000) : ∀ (n9 : Nat) (i : Nat), K 0 2 - i < n9 → i ≤ K 0 2 → ce_WP (ce_r 1) mX3_emptyBinFor 0 0 5 [some (.ref (h)), some (.int (nI (q))), some (.int (ce_o (kv_eb K q i))), some (.int (nI (i)))] [] σ g (ce_pv (ce_o (kv_eb K q (K 0 2))) σ g) ce_no := by
  intro n9
  induction n9 with
  | zero =>
    intros
    omega
  | succ n9 ih =>
    intro i hm hi
    have hB := hk.1
    have hi1 := hk.2.1 i
    cases hp : kv_eb K q i with
    | none =>
      show ce_WP (ce_r 1) mX3_emptyBinFor 0 0 5 [some (.ref (h)), some (.int (nI (q))), some (.int ((-99999))), some (.int (nI (i)))] [] σ g (ce_pv (ce_o (kv_eb K q (K 0 2))) σ g) ce_no
      refine ce_iload_n dX3_emptyBinFor_5 rfl ?_
      refine ce_aload_n dX3_emptyBinFor_6 rfl ?_
      refine ce_getIv dX3_emptyBinFor_7 fRX3_21 (hL).1 (hr).1 ?_
      refine ce_icmp_geN (tgt := 55) dX3_emptyBinFor_10 (by decide) rfl rfl (by omega) (by omega) (fun c_10 => ?_) (fun c_10 => ?_)
      · refine ce_iload_n dX3_emptyBinFor_55 rfl ?_
        refine ce_iret dX3_emptyBinFor_56 rfl rfl (by decide) (by decide) ?_
        exact ⟨congrArg (fun z => some (Value.int z)) (by rw [show i = K 0 2 by omega] at hp; rw [hp]; rfl), rfl, rfl⟩
      · refine ce_aload_n dX3_emptyBinFor_13 rfl ?_
        refine ce_getR dX3_emptyBinFor_14 fRX3_18 (hL).1 (hL).2.1.2.2 ?_
        refine ce_iload_n dX3_emptyBinFor_17 rfl ?_
        refine ce_ialdv dX3_emptyBinFor_18 ((hL).2.2.2.2).1 rfl ((hL).2.2.2.2).2 (by omega) (by decide) ((hr).2.2.2 _ (by omega)) ?_
        refine ce_if_neN (tgt := 49) dX3_emptyBinFor_19 (by decide) rfl (by omega) (fun c_19 => ?_) (fun c_19 => ?_)
        · refine ce_iinc (v := nI (i + 1)) dX3_emptyBinFor_49 rfl (ce_inc1 _) (Nat.le_of_ble_eq_true rfl) rfl ?_
          refine ce_goto (tgt := 5) dX3_emptyBinFor_52 (by decide) ?_
          refine ce_drop (L' := [some (.ref (h)), some (.int (nI (q))), some (.int ((-99999))), some (.int (nI (i + 1)))]) (ce_le_s rfl (ce_le_s rfl (ce_le_s rfl (ce_le_s rfl ce_le_e)))) ?_
          have e9 : kv_eb K q (i + 1) = none := by
            unfold kv_eb
            rw [hp]
            dsimp only
            (repeat' split) <;> first | rfl | (exfalso; omega)
          have e8 := ih (i + 1) (by omega) (by omega)
          rw [e9] at e8
          exact e8
        · refine ce_iload_n dX3_emptyBinFor_22 rfl ?_
          refine ce_ldc dX3_emptyBinFor_23 kRX3_25 ?_
          refine ce_icmp_eqI (p := (-99999)) (q := (-99999)) (tgt := 47) dX3_emptyBinFor_25 (by decide) (by decide) (by decide) (fun c_25 => ?_) (fun c_25 => ?_)
          · refine ce_iload_n dX3_emptyBinFor_47 rfl ?_
            refine ce_istore_n dX3_emptyBinFor_48 (Nat.le_of_ble_eq_true rfl) rfl ?_
            refine ce_iinc (v := nI (i + 1)) dX3_emptyBinFor_49 rfl (ce_inc1 _) (Nat.le_of_ble_eq_true rfl) rfl ?_
            refine ce_goto (tgt := 5) dX3_emptyBinFor_52 (by decide) ?_
            refine ce_drop (L' := [some (.ref (h)), some (.int (nI (q))), some (.int (nI (i))), some (.int (nI (i + 1)))]) (ce_le_s rfl (ce_le_s rfl (ce_le_s rfl (ce_le_s rfl ce_le_e)))) ?_
            have e9 : kv_eb K q (i + 1) = some (i) := by
              unfold kv_eb
              rw [hp]
              dsimp only
              (repeat' split) <;> first | rfl | (exfalso; omega)
            have e8 := ih (i + 1) (by omega) (by omega)
            rw [e9] at e8
            exact e8
          · omega
    | some c =>
      have hc := kv_eb_lt hp
      have hc1 := hk.2.1 c
      show ce_WP (ce_r 1) mX3_emptyBinFor 0 0 5 [some (.ref (h)), some (.int (nI (q))), some (.int (nI (c))), some (.int (nI (i)))] [] σ g (ce_pv (ce_o (kv_eb K q (K 0 2))) σ g) ce_no
      refine ce_iload_n dX3_emptyBinFor_5 rfl ?_
      refine ce_aload_n dX3_emptyBinFor_6 rfl ?_
      refine ce_getIv dX3_emptyBinFor_7 fRX3_21 (hL).1 (hr).1 ?_
      refine ce_icmp_geN (tgt := 55) dX3_emptyBinFor_10 (by decide) rfl rfl (by omega) (by omega) (fun c_10 => ?_) (fun c_10 => ?_)
      · refine ce_iload_n dX3_emptyBinFor_55 rfl ?_
        refine ce_iret dX3_emptyBinFor_56 rfl rfl (by decide) (by decide) ?_
        exact ⟨congrArg (fun z => some (Value.int z)) (by rw [show i = K 0 2 by omega] at hp; rw [hp]; rfl), rfl, rfl⟩
      · refine ce_aload_n dX3_emptyBinFor_13 rfl ?_
        refine ce_getR dX3_emptyBinFor_14 fRX3_18 (hL).1 (hL).2.1.2.2 ?_
        refine ce_iload_n dX3_emptyBinFor_17 rfl ?_
        refine ce_ialdv dX3_emptyBinFor_18 ((hL).2.2.2.2).1 rfl ((hL).2.2.2.2).2 (by omega) (by decide) ((hr).2.2.2 _ (by omega)) ?_
        refine ce_if_neN (tgt := 49) dX3_emptyBinFor_19 (by decide) rfl (by omega) (fun c_19 => ?_) (fun c_19 => ?_)
        · refine ce_iinc (v := nI (i + 1)) dX3_emptyBinFor_49 rfl (ce_inc1 _) (Nat.le_of_ble_eq_true rfl) rfl ?_
          refine ce_goto (tgt := 5) dX3_emptyBinFor_52 (by decide) ?_
          refine ce_drop (L' := [some (.ref (h)), some (.int (nI (q))), some (.int (nI (c))), some (.int (nI (i + 1)))]) (ce_le_s rfl (ce_le_s rfl (ce_le_s rfl (ce_le_s rfl ce_le_e)))) ?_
          have e9 : kv_eb K q (i + 1) = some (c) := by
            unfold kv_eb
            rw [hp]
            dsimp only
            (repeat' split) <;> first | rfl | (exfalso; omega)
          have e8 := ih (i + 1) (by omega) (by omega)
          rw [e9] at e8
          exact e8
        · refine ce_iload_n dX3_emptyBinFor_22 rfl ?_
          refine ce_ldc dX3_emptyBinFor_23 kRX3_25 ?_
          refine ce_icmp_eqI (p := ((c : Nat) : Int)) (q := (-99999)) (tgt := 47) dX3_emptyBinFor_25 (by decide) (nI_toInt (by omega)) (by decide) (fun c_25 => ?_) (fun c_25 => ?_)
          · omega
          · refine ce_aload_n dX3_emptyBinFor_28 rfl ?_
            refine ce_getR dX3_emptyBinFor_29 fRX3_9 (hL).1 (hL).2.1.1 ?_
            refine ce_iload_n dX3_emptyBinFor_32 rfl ?_
            refine ce_ialdv dX3_emptyBinFor_33 ((hL).2.2.1).1 rfl ((hL).2.2.1).2 (by omega) (by decide) ((hr).2.1 _ (by omega)) ?_
            refine ce_aload_n dX3_emptyBinFor_34 rfl ?_
            refine ce_getR dX3_emptyBinFor_35 fRX3_9 (hL).1 (hL).2.1.1 ?_
            refine ce_iload_n dX3_emptyBinFor_38 rfl ?_
            refine ce_ialdv dX3_emptyBinFor_39 ((hL).2.2.1).1 rfl ((hL).2.2.1).2 (by omega) (by decide) ((hr).2.1 _ (by omega)) ?_
            refine ce_iload_n dX3_emptyBinFor_40 rfl ?_
            refine ce_cSp dX3_emptyBinFor_41 hX3_suitsBetter kRX3_50 (m_X3_suitsBetter (K 11 (i)) (K 11 (c)) (q) (by omega) (by omega) (by omega)) rfl rfl (by decide) (Nat.le_of_ble_eq_true rfl) ?_
            refine ce_if_eqB (tgt := 49) dX3_emptyBinFor_44 (by decide) rfl (fun c_44 => ?_) (fun c_44 => ?_)
            · refine ce_iinc (v := nI (i + 1)) dX3_emptyBinFor_49 rfl (ce_inc1 _) (Nat.le_of_ble_eq_true rfl) rfl ?_
              refine ce_goto (tgt := 5) dX3_emptyBinFor_52 (by decide) ?_
              refine ce_drop (L' := [some (.ref (h)), some (.int (nI (q))), some (.int (nI (c))), some (.int (nI (i + 1)))]) (ce_le_s rfl (ce_le_s rfl (ce_le_s rfl (ce_le_s rfl ce_le_e)))) ?_
              have e9 : kv_eb K q (i + 1) = some (c) := by
                unfold kv_eb
                rw [hp]
                dsimp only
                (repeat' split) <;> first | rfl | (exfalso; omega)
              have e8 := ih (i + 1) (by omega) (by omega)
              rw [e9] at e8
              exact e8
            · refine ce_iload_n dX3_emptyBinFor_47 rfl ?_
              refine ce_istore_n dX3_emptyBinFor_48 (Nat.le_of_ble_eq_true rfl) rfl ?_
              refine ce_iinc (v := nI (i + 1)) dX3_emptyBinFor_49 rfl (ce_inc1 _) (Nat.le_of_ble_eq_true rfl) rfl ?_
              refine ce_goto (tgt := 5) dX3_emptyBinFor_52 (by decide) ?_
              refine ce_drop (L' := [some (.ref (h)), some (.int (nI (q))), some (.int (nI (i))), some (.int (nI (i + 1)))]) (ce_le_s rfl (ce_le_s rfl (ce_le_s rfl (ce_le_s rfl ce_le_e)))) ?_
              have e9 : kv_eb K q (i + 1) = some (i) := by
                unfold kv_eb
                rw [hp]
                dsimp only
                (repeat' split) <;> first | rfl | (exfalso; omega)
              have e8 := ih (i + 1) (by omega) (by omega)
              rw [e9] at e8
              exact e8
set_option maxHeartbeats 2000000 in
set_option maxRecDepth 20000 in
theorem m_X3_emptyBinFor {σ : ce_S} {g : ce_D} (h : Nat) (K : ce_V) (hL : ce_LK σ h) (hr : ce_rK g h K) (hk : kv_rk K) (q : Nat) (hq : q < 100000) : ce_CT (ce_r 1) mX3_emptyBinFor [.ref (h), .int (nI (q))] σ g (ce_pv (ce_o (kv_eb K q (K 0 2))) σ g) ce_no := by
  have hB := hk.1
  refine ce_enter (by decide) rfl (Nat.le_of_ble_eq_true rfl) (L := [some (.ref (h)), some (.int (nI (q))), none, none]) rfl ?_
  refine ce_ldc dX3_emptyBinFor_0 kRX3_25 ?_
  refine ce_istore_n dX3_emptyBinFor_2 (Nat.le_of_ble_eq_true rfl) rfl ?_
  refine ce_iconst (v := nI (0)) dX3_emptyBinFor_3 (by decide) ?_
  refine ce_istore_n dX3_emptyBinFor_4 (Nat.le_of_ble_eq_true rfl) rfl ?_
  exact w_X3_emptyBinFor h K hL hr hk q hq (K 0 2 + 1) 0 (by omega) (by omega)
set_option maxHeartbeats 2000000 in
set_option maxRecDepth 20000 in
theorem w_X3_binToTakeFrom {σ : ce_S} {g : ce_D} (h : Nat) (K : ce_V) (hL : ce_LK σ h) (hr : ce_rK g h K) (hk : kv_rk K) (w : Nat) (hw : w < 6) : ∀ (n9 : Nat) (i : Nat), K 0 2 - i < n9 → i ≤ K 0 2 → ce_WP (ce_r 0) mX3_binToTakeFrom 0 0 5 [some (.ref (h)), some (.int (nI (w))), some (.int (ce_o (kv_tf K w i))), some (.int (nI (i))), none] [] σ g (ce_pv (ce_o (kv_tf K w (K 0 2))) σ g) ce_no := by
  intro n9
  induction n9 with
  | zero =>
    intros
    omega
  | succ n9 ih =>
    intro i hm hi
    have hB := hk.1
    have hi1 := hk.2.1 i
    cases hp : kv_tf K w i with
    | none =>
      show ce_WP (ce_r 0) mX3_binToTakeFrom 0 0 5 [some (.ref (h)), some (.int (nI (w))), some (.int ((-99999))), some (.int (nI (i))), none] [] σ g (ce_pv (ce_o (kv_tf K w (K 0 2))) σ g) ce_no
      refine ce_iload_n dX3_binToTakeFrom_5 rfl ?_
      refine ce_aload_n dX3_binToTakeFrom_6 rfl ?_
      refine ce_getIv dX3_binToTakeFrom_7 fRX3_21 (hL).1 (hr).1 ?_
      refine ce_icmp_geN (tgt := 73) dX3_binToTakeFrom_10 (by decide) rfl rfl (by omega) (by omega) (fun c_10 => ?_) (fun c_10 => ?_)
      · refine ce_iload_n dX3_binToTakeFrom_73 rfl ?_
        refine ce_iret dX3_binToTakeFrom_74 rfl rfl (by decide) (by decide) ?_
        exact ⟨congrArg (fun z => some (Value.int z)) (by rw [show i = K 0 2 by omega] at hp; rw [hp]; rfl), rfl, rfl⟩
      · refine ce_aload_n dX3_binToTakeFrom_13 rfl ?_
        refine ce_getR dX3_binToTakeFrom_14 fRX3_18 (hL).1 (hL).2.1.2.2 ?_
        refine ce_iload_n dX3_binToTakeFrom_17 rfl ?_
        refine ce_ialdv dX3_binToTakeFrom_18 ((hL).2.2.2.2).1 rfl ((hL).2.2.2.2).2 (by omega) (by decide) ((hr).2.2.2 _ (by omega)) ?_
        refine ce_if_leN (tgt := 36) dX3_binToTakeFrom_19 (by decide) rfl (by omega) (fun c_19 => ?_) (fun c_19 => ?_)
        · refine ce_iconst (v := nI (0)) dX3_binToTakeFrom_36 (by decide) ?_
          refine ce_istore dX3_binToTakeFrom_37 (Nat.le_of_ble_eq_true rfl) rfl ?_
          refine ce_iload dX3_binToTakeFrom_39 rfl ?_
          refine ce_if_eqN (tgt := 67) dX3_binToTakeFrom_41 (by decide) rfl (by omega) (fun c_41 => ?_) (fun c_41 => ?_)
          · refine ce_iinc (v := nI (i + 1)) dX3_binToTakeFrom_67 rfl (ce_inc1 _) (Nat.le_of_ble_eq_true rfl) rfl ?_
            refine ce_goto (tgt := 5) dX3_binToTakeFrom_70 (by decide) ?_
            refine ce_drop (L' := [some (.ref (h)), some (.int (nI (w))), some (.int ((-99999))), some (.int (nI (i + 1))), none]) (ce_le_s rfl (ce_le_s rfl (ce_le_s rfl (ce_le_s rfl (ce_le_n ce_le_e))))) ?_
            have e9 : kv_tf K w (i + 1) = none := by
              unfold kv_tf
              rw [hp]
              dsimp only
              (repeat' split) <;> first | rfl | (exfalso; omega)
            have e8 := ih (i + 1) (by omega) (by omega)
            rw [e9] at e8
            exact e8
          · omega
        · refine ce_aload_n dX3_binToTakeFrom_22 rfl ?_
          refine ce_getR dX3_binToTakeFrom_23 fRX3_15 (hL).1 (hL).2.1.2.1 ?_
          refine ce_iload_n dX3_binToTakeFrom_26 rfl ?_
          refine ce_ialdv dX3_binToTakeFrom_27 ((hL).2.2.2.1).1 rfl ((hL).2.2.2.1).2 (by omega) (by decide) ((hr).2.2.1 _ (by omega)) ?_
          refine ce_iload_n dX3_binToTakeFrom_28 rfl ?_
          refine ce_icmp_neI (p := (ce_wi K (i)).toInt) (q := ((w : Nat) : Int)) (tgt := 36) dX3_binToTakeFrom_29 (by decide) rfl (nI_toInt (by omega)) (fun c_29 => ?_) (fun c_29 => ?_)
          · rw [ne_eq, ce_wi_w2 hk hw c_19] at c_29
            refine ce_iconst (v := nI (0)) dX3_binToTakeFrom_36 (by decide) ?_
            refine ce_istore dX3_binToTakeFrom_37 (Nat.le_of_ble_eq_true rfl) rfl ?_
            refine ce_iload dX3_binToTakeFrom_39 rfl ?_
            refine ce_if_eqN (tgt := 67) dX3_binToTakeFrom_41 (by decide) rfl (by omega) (fun c_41 => ?_) (fun c_41 => ?_)
            · refine ce_iinc (v := nI (i + 1)) dX3_binToTakeFrom_67 rfl (ce_inc1 _) (Nat.le_of_ble_eq_true rfl) rfl ?_
              refine ce_goto (tgt := 5) dX3_binToTakeFrom_70 (by decide) ?_
              refine ce_drop (L' := [some (.ref (h)), some (.int (nI (w))), some (.int ((-99999))), some (.int (nI (i + 1))), none]) (ce_le_s rfl (ce_le_s rfl (ce_le_s rfl (ce_le_s rfl (ce_le_n ce_le_e))))) ?_
              have e9 : kv_tf K w (i + 1) = none := by
                unfold kv_tf
                rw [hp]
                dsimp only
                (repeat' split) <;> first | rfl | (exfalso; omega)
              have e8 := ih (i + 1) (by omega) (by omega)
              rw [e9] at e8
              exact e8
            · omega
          · rw [ce_wi_w2 hk hw c_19] at c_29
            refine ce_iconst (v := nI (1)) dX3_binToTakeFrom_32 (by decide) ?_
            refine ce_goto (tgt := 37) dX3_binToTakeFrom_33 (by decide) ?_
            refine ce_istore dX3_binToTakeFrom_37 (Nat.le_of_ble_eq_true rfl) rfl ?_
            refine ce_iload dX3_binToTakeFrom_39 rfl ?_
            refine ce_if_eqN (tgt := 67) dX3_binToTakeFrom_41 (by decide) rfl (by omega) (fun c_41 => ?_) (fun c_41 => ?_)
            · omega
            · refine ce_iload_n dX3_binToTakeFrom_44 rfl ?_
              refine ce_ldc dX3_binToTakeFrom_45 kRX3_25 ?_
              refine ce_icmp_eqI (p := (-99999)) (q := (-99999)) (tgt := 65) dX3_binToTakeFrom_47 (by decide) (by decide) (by decide) (fun c_47 => ?_) (fun c_47 => ?_)
              · refine ce_iload_n dX3_binToTakeFrom_65 rfl ?_
                refine ce_istore_n dX3_binToTakeFrom_66 (Nat.le_of_ble_eq_true rfl) rfl ?_
                refine ce_iinc (v := nI (i + 1)) dX3_binToTakeFrom_67 rfl (ce_inc1 _) (Nat.le_of_ble_eq_true rfl) rfl ?_
                refine ce_goto (tgt := 5) dX3_binToTakeFrom_70 (by decide) ?_
                refine ce_drop (L' := [some (.ref (h)), some (.int (nI (w))), some (.int (nI (i))), some (.int (nI (i + 1))), none]) (ce_le_s rfl (ce_le_s rfl (ce_le_s rfl (ce_le_s rfl (ce_le_n ce_le_e))))) ?_
                have e9 : kv_tf K w (i + 1) = some (i) := by
                  unfold kv_tf
                  rw [hp]
                  dsimp only
                  (repeat' split) <;> first | rfl | (exfalso; omega)
                have e8 := ih (i + 1) (by omega) (by omega)
                rw [e9] at e8
                exact e8
              · omega
    | some c =>
      have hc := kv_tf_lt hp
      have hc1 := hk.2.1 c
      show ce_WP (ce_r 0) mX3_binToTakeFrom 0 0 5 [some (.ref (h)), some (.int (nI (w))), some (.int (nI (c))), some (.int (nI (i))), none] [] σ g (ce_pv (ce_o (kv_tf K w (K 0 2))) σ g) ce_no
      refine ce_iload_n dX3_binToTakeFrom_5 rfl ?_
      refine ce_aload_n dX3_binToTakeFrom_6 rfl ?_
      refine ce_getIv dX3_binToTakeFrom_7 fRX3_21 (hL).1 (hr).1 ?_
      refine ce_icmp_geN (tgt := 73) dX3_binToTakeFrom_10 (by decide) rfl rfl (by omega) (by omega) (fun c_10 => ?_) (fun c_10 => ?_)
      · refine ce_iload_n dX3_binToTakeFrom_73 rfl ?_
        refine ce_iret dX3_binToTakeFrom_74 rfl rfl (by decide) (by decide) ?_
        exact ⟨congrArg (fun z => some (Value.int z)) (by rw [show i = K 0 2 by omega] at hp; rw [hp]; rfl), rfl, rfl⟩
      · refine ce_aload_n dX3_binToTakeFrom_13 rfl ?_
        refine ce_getR dX3_binToTakeFrom_14 fRX3_18 (hL).1 (hL).2.1.2.2 ?_
        refine ce_iload_n dX3_binToTakeFrom_17 rfl ?_
        refine ce_ialdv dX3_binToTakeFrom_18 ((hL).2.2.2.2).1 rfl ((hL).2.2.2.2).2 (by omega) (by decide) ((hr).2.2.2 _ (by omega)) ?_
        refine ce_if_leN (tgt := 36) dX3_binToTakeFrom_19 (by decide) rfl (by omega) (fun c_19 => ?_) (fun c_19 => ?_)
        · refine ce_iconst (v := nI (0)) dX3_binToTakeFrom_36 (by decide) ?_
          refine ce_istore dX3_binToTakeFrom_37 (Nat.le_of_ble_eq_true rfl) rfl ?_
          refine ce_iload dX3_binToTakeFrom_39 rfl ?_
          refine ce_if_eqN (tgt := 67) dX3_binToTakeFrom_41 (by decide) rfl (by omega) (fun c_41 => ?_) (fun c_41 => ?_)
          · refine ce_iinc (v := nI (i + 1)) dX3_binToTakeFrom_67 rfl (ce_inc1 _) (Nat.le_of_ble_eq_true rfl) rfl ?_
            refine ce_goto (tgt := 5) dX3_binToTakeFrom_70 (by decide) ?_
            refine ce_drop (L' := [some (.ref (h)), some (.int (nI (w))), some (.int (nI (c))), some (.int (nI (i + 1))), none]) (ce_le_s rfl (ce_le_s rfl (ce_le_s rfl (ce_le_s rfl (ce_le_n ce_le_e))))) ?_
            have e9 : kv_tf K w (i + 1) = some (c) := by
              unfold kv_tf
              rw [hp]
              dsimp only
              (repeat' split) <;> first | rfl | (exfalso; omega)
            have e8 := ih (i + 1) (by omega) (by omega)
            rw [e9] at e8
            exact e8
          · omega
        · refine ce_aload_n dX3_binToTakeFrom_22 rfl ?_
          refine ce_getR dX3_binToTakeFrom_23 fRX3_15 (hL).1 (hL).2.1.2.1 ?_
          refine ce_iload_n dX3_binToTakeFrom_26 rfl ?_
          refine ce_ialdv dX3_binToTakeFrom_27 ((hL).2.2.2.1).1 rfl ((hL).2.2.2.1).2 (by omega) (by decide) ((hr).2.2.1 _ (by omega)) ?_
          refine ce_iload_n dX3_binToTakeFrom_28 rfl ?_
          refine ce_icmp_neI (p := (ce_wi K (i)).toInt) (q := ((w : Nat) : Int)) (tgt := 36) dX3_binToTakeFrom_29 (by decide) rfl (nI_toInt (by omega)) (fun c_29 => ?_) (fun c_29 => ?_)
          · rw [ne_eq, ce_wi_w2 hk hw c_19] at c_29
            refine ce_iconst (v := nI (0)) dX3_binToTakeFrom_36 (by decide) ?_
            refine ce_istore dX3_binToTakeFrom_37 (Nat.le_of_ble_eq_true rfl) rfl ?_
            refine ce_iload dX3_binToTakeFrom_39 rfl ?_
            refine ce_if_eqN (tgt := 67) dX3_binToTakeFrom_41 (by decide) rfl (by omega) (fun c_41 => ?_) (fun c_41 => ?_)
            · refine ce_iinc (v := nI (i + 1)) dX3_binToTakeFrom_67 rfl (ce_inc1 _) (Nat.le_of_ble_eq_true rfl) rfl ?_
              refine ce_goto (tgt := 5) dX3_binToTakeFrom_70 (by decide) ?_
              refine ce_drop (L' := [some (.ref (h)), some (.int (nI (w))), some (.int (nI (c))), some (.int (nI (i + 1))), none]) (ce_le_s rfl (ce_le_s rfl (ce_le_s rfl (ce_le_s rfl (ce_le_n ce_le_e))))) ?_
              have e9 : kv_tf K w (i + 1) = some (c) := by
                unfold kv_tf
                rw [hp]
                dsimp only
                (repeat' split) <;> first | rfl | (exfalso; omega)
              have e8 := ih (i + 1) (by omega) (by omega)
              rw [e9] at e8
              exact e8
            · omega
          · rw [ce_wi_w2 hk hw c_19] at c_29
            refine ce_iconst (v := nI (1)) dX3_binToTakeFrom_32 (by decide) ?_
            refine ce_goto (tgt := 37) dX3_binToTakeFrom_33 (by decide) ?_
            refine ce_istore dX3_binToTakeFrom_37 (Nat.le_of_ble_eq_true rfl) rfl ?_
            refine ce_iload dX3_binToTakeFrom_39 rfl ?_
            refine ce_if_eqN (tgt := 67) dX3_binToTakeFrom_41 (by decide) rfl (by omega) (fun c_41 => ?_) (fun c_41 => ?_)
            · omega
            · refine ce_iload_n dX3_binToTakeFrom_44 rfl ?_
              refine ce_ldc dX3_binToTakeFrom_45 kRX3_25 ?_
              refine ce_icmp_eqI (p := ((c : Nat) : Int)) (q := (-99999)) (tgt := 65) dX3_binToTakeFrom_47 (by decide) (nI_toInt (by omega)) (by decide) (fun c_47 => ?_) (fun c_47 => ?_)
              · omega
              · refine ce_aload_n dX3_binToTakeFrom_50 rfl ?_
                refine ce_getR dX3_binToTakeFrom_51 fRX3_18 (hL).1 (hL).2.1.2.2 ?_
                refine ce_iload_n dX3_binToTakeFrom_54 rfl ?_
                refine ce_ialdv dX3_binToTakeFrom_55 ((hL).2.2.2.2).1 rfl ((hL).2.2.2.2).2 (by omega) (by decide) ((hr).2.2.2 _ (by omega)) ?_
                refine ce_aload_n dX3_binToTakeFrom_56 rfl ?_
                refine ce_getR dX3_binToTakeFrom_57 fRX3_18 (hL).1 (hL).2.1.2.2 ?_
                refine ce_iload_n dX3_binToTakeFrom_60 rfl ?_
                refine ce_ialdv dX3_binToTakeFrom_61 ((hL).2.2.2.2).1 rfl ((hL).2.2.2.2).2 (by omega) (by decide) ((hr).2.2.2 _ (by omega)) ?_
                refine ce_icmp_gtN (tgt := 67) dX3_binToTakeFrom_62 (by decide) rfl rfl (by omega) (by omega) (fun c_62 => ?_) (fun c_62 => ?_)
                · refine ce_iinc (v := nI (i + 1)) dX3_binToTakeFrom_67 rfl (ce_inc1 _) (Nat.le_of_ble_eq_true rfl) rfl ?_
                  refine ce_goto (tgt := 5) dX3_binToTakeFrom_70 (by decide) ?_
                  refine ce_drop (L' := [some (.ref (h)), some (.int (nI (w))), some (.int (nI (c))), some (.int (nI (i + 1))), none]) (ce_le_s rfl (ce_le_s rfl (ce_le_s rfl (ce_le_s rfl (ce_le_n ce_le_e))))) ?_
                  have e9 : kv_tf K w (i + 1) = some (c) := by
                    unfold kv_tf
                    rw [hp]
                    dsimp only
                    (repeat' split) <;> first | rfl | (exfalso; omega)
                  have e8 := ih (i + 1) (by omega) (by omega)
                  rw [e9] at e8
                  exact e8
                · refine ce_iload_n dX3_binToTakeFrom_65 rfl ?_
                  refine ce_istore_n dX3_binToTakeFrom_66 (Nat.le_of_ble_eq_true rfl) rfl ?_
                  refine ce_iinc (v := nI (i + 1)) dX3_binToTakeFrom_67 rfl (ce_inc1 _) (Nat.le_of_ble_eq_true rfl) rfl ?_
                  refine ce_goto (tgt := 5) dX3_binToTakeFrom_70 (by decide) ?_
                  refine ce_drop (L' := [some (.ref (h)), some (.int (nI (w))), some (.int (nI (i))), some (.int (nI (i + 1))), none]) (ce_le_s rfl (ce_le_s rfl (ce_le_s rfl (ce_le_s rfl (ce_le_n ce_le_e))))) ?_
                  have e9 : kv_tf K w (i + 1) = some (i) := by
                    unfold kv_tf
                    rw [hp]
                    dsimp only
                    (repeat' split) <;> first | rfl | (exfalso; omega)
                  have e8 := ih (i + 1) (by omega) (by omega)
                  rw [e9] at e8
                  exact e8
set_option maxHeartbeats 2000000 in
set_option maxRecDepth 20000 in
theorem m_X3_binToTakeFrom {σ : ce_S} {g : ce_D} (h : Nat) (K : ce_V) (hL : ce_LK σ h) (hr : ce_rK g h K) (hk : kv_rk K) (w : Nat) (hw : w < 6) : ce_CT (ce_r 0) mX3_binToTakeFrom [.ref (h), .int (nI (w))] σ g (ce_pv (ce_o (kv_tf K w (K 0 2))) σ g) ce_no := by
  have hB := hk.1
  refine ce_enter (by decide) rfl (Nat.le_of_ble_eq_true rfl) (L := [some (.ref (h)), some (.int (nI (w))), none, none, none]) rfl ?_
  refine ce_ldc dX3_binToTakeFrom_0 kRX3_25 ?_
  refine ce_istore_n dX3_binToTakeFrom_2 (Nat.le_of_ble_eq_true rfl) rfl ?_
  refine ce_iconst (v := nI (0)) dX3_binToTakeFrom_3 (by decide) ?_
  refine ce_istore_n dX3_binToTakeFrom_4 (Nat.le_of_ble_eq_true rfl) rfl ?_
  exact w_X3_binToTakeFrom h K hL hr hk w hw (K 0 2 + 1) 0 (by omega) (by omega)
set_option maxHeartbeats 2000000 in
set_option maxRecDepth 20000 in
theorem m_X3_putInto {σ : ce_S} {g : ce_D} (h : Nat) (K : ce_V) (hL : ce_LK σ h) (hr : ce_rK g h K) (b w n : Nat) (hb : b < 8) (hn : 0 < n) : ce_CT (ce_r 0) mX3_putInto [.ref (h), .int (nI (b)), .int (nI (w)), .int (nI (n))] σ g (ce_uv σ (fun g' => ce_rK g' h (kv_put K b w n) ∧ ce_fr h (h + 4) g g')) ce_no := by
  refine ce_enter (by decide) rfl (Nat.le_of_ble_eq_true rfl) (L := [some (.ref (h)), some (.int (nI (b))), some (.int (nI (w))), some (.int (nI (n)))]) rfl ?_
  refine ce_aload_n dX3_putInto_0 rfl ?_
  refine ce_getR dX3_putInto_1 fRX3_15 (hL).1 (hL).2.1.2.1 ?_
  refine ce_iload_n dX3_putInto_4 rfl ?_
  refine ce_iload_n dX3_putInto_5 rfl ?_
  refine ce_iast dX3_putInto_6 ((hL).2.2.2.1).1 rfl ((hL).2.2.2.1).2 (by omega) (by decide) ?_
  generalize hcg1 : ce_up g (h + 2) (b) (nI (w)) = cg1
  have e9 : cg1 (h + 3) b = nI (K 12 b) := by rw [← hcg1, ce_up_ne _ _ _ (by omega)]; exact hr.2.2.2 b (by omega)
  refine ce_aload_n dX3_putInto_7 rfl ?_
  refine ce_getR dX3_putInto_8 fRX3_18 (hL).1 (hL).2.1.2.2 ?_
  refine ce_iload_n dX3_putInto_11 rfl ?_
  refine ce_dup2 dX3_putInto_12 rfl rfl ?_
  refine ce_ialdv dX3_putInto_13 ((hL).2.2.2.2).1 rfl ((hL).2.2.2.2).2 (by omega) (by decide) e9 ?_
  refine ce_iload_n dX3_putInto_14 rfl ?_
  refine ce_iadd (z := nI (K 12 b + n)) dX3_putInto_15 (nI_add _ _) ?_
  refine ce_iast dX3_putInto_16 ((hL).2.2.2.2).1 rfl ((hL).2.2.2.2).2 (by omega) (by decide) ?_
  generalize hcg2 : ce_up cg1 (h + 3) (b) (nI (K 12 b + n)) = cg2
  exact ce_vret dX3_putInto_17 rfl (by decide) (by decide) ⟨rfl, rfl, (by subst hcg2; subst hcg1; exact ⟨kr_put hr hn, (ce_fr.rf.up _ _ (by omega)).up _ _ (by omega)⟩)⟩
set_option maxHeartbeats 2000000 in
set_option maxRecDepth 20000 in
theorem m_X3_removeFrom {σ : ce_S} {g : ce_D} (h : Nat) (K : ce_V) (hL : ce_LK σ h) (hr : ce_rK g h K) (b n : Nat) (hb : b < 8) (hn : n ≤ K 12 b) (hq : K 12 b < 1000) : ce_CT (ce_r 0) mX3_removeFrom [.ref (h), .int (nI (b)), .int (nI (n))] σ g (ce_uv σ (fun g' => ce_rK g' h (kv_rem K b n) ∧ ce_fr h (h + 4) g g')) ce_no := by
  refine ce_enter (by decide) rfl (Nat.le_of_ble_eq_true rfl) (L := [some (.ref (h)), some (.int (nI (b))), some (.int (nI (n)))]) rfl ?_
  refine ce_aload_n dX3_removeFrom_0 rfl ?_
  refine ce_getR dX3_removeFrom_1 fRX3_18 (hL).1 (hL).2.1.2.2 ?_
  refine ce_iload_n dX3_removeFrom_4 rfl ?_
  refine ce_dup2 dX3_removeFrom_5 rfl rfl ?_
  refine ce_ialdv dX3_removeFrom_6 ((hL).2.2.2.2).1 rfl ((hL).2.2.2.2).2 (by omega) (by decide) (hr.2.2.2 b (by omega)) ?_
  refine ce_iload_n dX3_removeFrom_7 rfl ?_
  refine ce_isub (z := nI (K 12 b - (n))) dX3_removeFrom_8 (pk_sub (by omega)) ?_
  refine ce_iast dX3_removeFrom_9 ((hL).2.2.2.2).1 rfl ((hL).2.2.2.2).2 (by omega) (by decide) ?_
  generalize hcg1 : ce_up g (h + 3) (b) (nI (K 12 b - (n))) = cg1
  have e9 : cg1 (h + 3) b = nI (K 12 b - n) := by rw [← hcg1, ce_up_eq]; exact if_pos rfl
  refine ce_aload_n dX3_removeFrom_10 rfl ?_
  refine ce_getR dX3_removeFrom_11 fRX3_18 (hL).1 (hL).2.1.2.2 ?_
  refine ce_iload_n dX3_removeFrom_14 rfl ?_
  refine ce_ialdv dX3_removeFrom_15 ((hL).2.2.2.2).1 rfl ((hL).2.2.2.2).2 (by omega) (by decide) e9 ?_
  refine ce_if_neN (tgt := 27) dX3_removeFrom_16 (by decide) rfl (by omega) (fun c_16 => ?_) (fun c_16 => ?_)
  · exact ce_vret dX3_removeFrom_27 rfl (by decide) (by decide) ⟨rfl, rfl, (by subst hcg1; exact ⟨kr_rem1 hr (by omega), ce_fr.rf.up _ _ (by omega)⟩)⟩
  · refine ce_aload_n dX3_removeFrom_19 rfl ?_
    refine ce_getR dX3_removeFrom_20 fRX3_15 (hL).1 (hL).2.1.2.1 ?_
    refine ce_iload_n dX3_removeFrom_23 rfl ?_
    refine ce_ldc dX3_removeFrom_24 kRX3_25 ?_
    refine ce_iast dX3_removeFrom_26 ((hL).2.2.2.1).1 rfl ((hL).2.2.2.1).2 (by omega) (by decide) ?_
    generalize hcg2 : ce_up cg1 (h + 2) (b) ((-99999)) = cg2
    exact ce_vret dX3_removeFrom_27 rfl (by decide) (by decide) ⟨rfl, rfl, (by subst hcg2; subst hcg1; exact ⟨kr_rem2 hr (by omega), (ce_fr.rf.up _ _ (by omega)).up _ _ (by omega)⟩)⟩
theorem n_X3_binToFillUp {σ : ce_S} {g : ce_D} (h : Nat) (K : ce_V) (hL : ce_LK σ h) (hr : ce_rK g h K) (hk : kv_rk K) (w : Nat) (hw : w < 6) (v : Int32) (hv : ce_o (kv_fill K w (K 0 2)) = v) : ce_CT (ce_r 1) mX3_binToFillUp [.ref (h), .int (nI (w))] σ g (ce_pv v σ g) ce_no := hv ▸ m_X3_binToFillUp h K hL hr hk w hw
theorem n_X3_emptyBinFor {σ : ce_S} {g : ce_D} (h : Nat) (K : ce_V) (hL : ce_LK σ h) (hr : ce_rK g h K) (hk : kv_rk K) (q : Nat) (hq : q < 100000) (v : Int32) (hv : ce_o (kv_eb K q (K 0 2)) = v) : ce_CT (ce_r 1) mX3_emptyBinFor [.ref (h), .int (nI (q))] σ g (ce_pv v σ g) ce_no := hv ▸ m_X3_emptyBinFor h K hL hr hk q hq
theorem n_X3_binToTakeFrom {σ : ce_S} {g : ce_D} (h : Nat) (K : ce_V) (hL : ce_LK σ h) (hr : ce_rK g h K) (hk : kv_rk K) (w : Nat) (hw : w < 6) (v : Int32) (hv : ce_o (kv_tf K w (K 0 2)) = v) : ce_CT (ce_r 0) mX3_binToTakeFrom [.ref (h), .int (nI (w))] σ g (ce_pv v σ g) ce_no := hv ▸ m_X3_binToTakeFrom h K hL hr hk w hw
set_option maxHeartbeats 2000000 in
set_option maxRecDepth 20000 in
theorem w_X3_lay {σ : ce_S} (h : Nat) (hL : ce_LK σ h) (g0 : ce_D) (T : ce_V) (nb : Nat) (w : Nat) (hw : w < 6) : ∀ (n9 : Nat) (K : ce_V) (g : ce_D) (i left : Nat), nb - i < n9 → i ≤ nb → ce_rK g h K → kv_rk K → K 0 2 = nb → left < 100000 → kv_lay w (nb - i) left K = T → ce_fr h (h + 4) g0 g → ce_WP (ce_r 2) mX3_lay 0 0 5 [some (.ref (h)), some (.int (nI (w))), none, some (.int (nI (left))), some (.int (nI (i))), none, none] [] σ g (ce_uv σ (fun g' => ce_rK g' h T ∧ ce_fr h (h + 4) g0 g')) ce_no := by
  intro n9
  induction n9 with
  | zero =>
    intros
    omega
  | succ n9 ih =>
    intro K g i left hm hi hr hk hK hl hT hf
    have hB := hk.1
    cases hp : kv_fill K w (K 0 2) with
    | none =>
      cases hq : kv_eb K left (K 0 2) with
      | none =>
        refine ce_iload dX3_lay_5 rfl ?_
        refine ce_aload_n dX3_lay_7 rfl ?_
        refine ce_getIv dX3_lay_8 fRX3_21 (hL).1 (hr).1 ?_
        refine ce_icmp_geN (tgt := 79) dX3_lay_11 (by decide) rfl rfl (by omega) (by omega) (fun c_11 => ?_) (fun c_11 => ?_)
        · exact ce_vret dX3_lay_79 rfl (by decide) (by decide) ⟨rfl, rfl, ⟨(show K = T by rw [← hT, show nb - i = 0 by omega]; rfl) ▸ hr, hf⟩⟩
        · refine ce_iload_n dX3_lay_14 rfl ?_
          refine ce_if_leN (tgt := 79) dX3_lay_15 (by decide) rfl (by omega) (fun c_15 => ?_) (fun c_15 => ?_)
          · exact ce_vret dX3_lay_79 rfl (by decide) (by decide) ⟨rfl, rfl, ⟨(show K = T by rw [← hT, show left = 0 by omega, kv_lay_0]) ▸ hr, hf⟩⟩
          · refine ce_aload_n dX3_lay_18 rfl ?_
            refine ce_iload_n dX3_lay_19 rfl ?_
            refine ce_cVp dX3_lay_20 hX3_binToFillUp kRX3_34 (n_X3_binToFillUp h K hL hr hk (w) hw ((-99999)) (by rw [hp]; rfl)) rfl rfl (hL).1 rfl (by decide) (Nat.le_of_ble_eq_true rfl) ?_
            refine ce_istore dX3_lay_23 (Nat.le_of_ble_eq_true rfl) rfl ?_
            refine ce_iload dX3_lay_25 rfl ?_
            refine ce_ldc dX3_lay_27 kRX3_25 ?_
            refine ce_icmp_neI (p := (-99999)) (q := (-99999)) (tgt := 39) dX3_lay_29 (by decide) (by decide) (by decide) (fun c_29 => ?_) (fun c_29 => ?_)
            · omega
            · refine ce_aload_n dX3_lay_32 rfl ?_
              refine ce_iload_n dX3_lay_33 rfl ?_
              refine ce_cVp dX3_lay_34 hX3_emptyBinFor kRX3_37 (n_X3_emptyBinFor h K hL hr hk (left) (by omega) ((-99999)) (by rw [hq]; rfl)) rfl rfl (hL).1 rfl (by decide) (Nat.le_of_ble_eq_true rfl) ?_
              refine ce_istore dX3_lay_37 (Nat.le_of_ble_eq_true rfl) rfl ?_
              refine ce_iload dX3_lay_39 rfl ?_
              refine ce_ldc dX3_lay_41 kRX3_25 ?_
              refine ce_icmp_neI (p := (-99999)) (q := (-99999)) (tgt := 47) dX3_lay_43 (by decide) (by decide) (by decide) (fun c_43 => ?_) (fun c_43 => ?_)
              · omega
              · exact ce_vret dX3_lay_46 rfl (by decide) (by decide) ⟨rfl, rfl, ⟨(show K = T by rw [← hT, kv_lay_none (by rw [hp, hq]; rfl)]) ▸ hr, hf⟩⟩
      | some c =>
        have hc := kv_eb_lt hq
        have hc1 := hk.2.1 c
        have hc2 := hk.2.2.2.2 c hc.1
        refine ce_iload dX3_lay_5 rfl ?_
        refine ce_aload_n dX3_lay_7 rfl ?_
        refine ce_getIv dX3_lay_8 fRX3_21 (hL).1 (hr).1 ?_
        refine ce_icmp_geN (tgt := 79) dX3_lay_11 (by decide) rfl rfl (by omega) (by omega) (fun c_11 => ?_) (fun c_11 => ?_)
        · exact ce_vret dX3_lay_79 rfl (by decide) (by decide) ⟨rfl, rfl, ⟨(show K = T by rw [← hT, show nb - i = 0 by omega]; rfl) ▸ hr, hf⟩⟩
        · refine ce_iload_n dX3_lay_14 rfl ?_
          refine ce_if_leN (tgt := 79) dX3_lay_15 (by decide) rfl (by omega) (fun c_15 => ?_) (fun c_15 => ?_)
          · exact ce_vret dX3_lay_79 rfl (by decide) (by decide) ⟨rfl, rfl, ⟨(show K = T by rw [← hT, show left = 0 by omega, kv_lay_0]) ▸ hr, hf⟩⟩
          · refine ce_aload_n dX3_lay_18 rfl ?_
            refine ce_iload_n dX3_lay_19 rfl ?_
            refine ce_cVp dX3_lay_20 hX3_binToFillUp kRX3_34 (n_X3_binToFillUp h K hL hr hk (w) hw ((-99999)) (by rw [hp]; rfl)) rfl rfl (hL).1 rfl (by decide) (Nat.le_of_ble_eq_true rfl) ?_
            refine ce_istore dX3_lay_23 (Nat.le_of_ble_eq_true rfl) rfl ?_
            refine ce_iload dX3_lay_25 rfl ?_
            refine ce_ldc dX3_lay_27 kRX3_25 ?_
            refine ce_icmp_neI (p := (-99999)) (q := (-99999)) (tgt := 39) dX3_lay_29 (by decide) (by decide) (by decide) (fun c_29 => ?_) (fun c_29 => ?_)
            · omega
            · refine ce_aload_n dX3_lay_32 rfl ?_
              refine ce_iload_n dX3_lay_33 rfl ?_
              refine ce_cVp dX3_lay_34 hX3_emptyBinFor kRX3_37 (n_X3_emptyBinFor h K hL hr hk (left) (by omega) (nI (c)) (by rw [hq]; rfl)) rfl rfl (hL).1 rfl (by decide) (Nat.le_of_ble_eq_true rfl) ?_
              refine ce_istore dX3_lay_37 (Nat.le_of_ble_eq_true rfl) rfl ?_
              refine ce_iload dX3_lay_39 rfl ?_
              refine ce_ldc dX3_lay_41 kRX3_25 ?_
              refine ce_icmp_neI (p := ((c : Nat) : Int)) (q := (-99999)) (tgt := 47) dX3_lay_43 (by decide) (nI_toInt (by omega)) (by decide) (fun c_43 => ?_) (fun c_43 => ?_)
              · refine ce_iload_n dX3_lay_47 rfl ?_
                refine ce_aload_n dX3_lay_48 rfl ?_
                refine ce_iload dX3_lay_49 rfl ?_
                refine ce_cVp dX3_lay_51 hX3_roomIn kRX3_26 (m_X3_roomIn h K hL hr hk (c) (by omega)) rfl rfl (hL).1 rfl (by decide) (Nat.le_of_ble_eq_true rfl) ?_
                refine ce_min dX3_lay_54 kRX3_40 rfl rfl (by omega) (by omega) (by decide) (Nat.le_of_ble_eq_true rfl) ?_
                refine ce_istore dX3_lay_57 (Nat.le_of_ble_eq_true rfl) rfl ?_
                refine ce_aload_n dX3_lay_59 rfl ?_
                refine ce_iload dX3_lay_60 rfl ?_
                refine ce_iload_n dX3_lay_62 rfl ?_
                refine ce_iload dX3_lay_63 rfl ?_
                refine ce_cVu dX3_lay_65 hX3_putInto kRX3_46 (m_X3_putInto h K hL hr (c) (w) (min (left) (K 11 (c) - K 12 (c))) (by omega) (by omega)) rfl rfl (hL).1 rfl (by decide) (Nat.le_of_ble_eq_true rfl) (fun cg1 hcg1 => ?_)
                refine ce_iload_n dX3_lay_68 rfl ?_
                refine ce_iload dX3_lay_69 rfl ?_
                refine ce_isub (z := nI (left - (min (left) (K 11 (c) - K 12 (c))))) dX3_lay_71 (pk_sub (by omega)) ?_
                refine ce_istore_n dX3_lay_72 (Nat.le_of_ble_eq_true rfl) rfl ?_
                refine ce_iinc (v := nI (i + 1)) dX3_lay_73 rfl (ce_inc1 _) (Nat.le_of_ble_eq_true rfl) rfl ?_
                refine ce_goto (tgt := 5) dX3_lay_76 (by decide) ?_
                refine ce_drop (L' := [some (.ref (h)), some (.int (nI (w))), none, some (.int (nI (left - (min (left) (K 11 (c) - K 12 (c)))))), some (.int (nI (i + 1))), none, none]) (ce_le_s rfl (ce_le_s rfl (ce_le_n (ce_le_s rfl (ce_le_s rfl (ce_le_n (ce_le_n ce_le_e))))))) ?_
                have e9 := kv_lay_some (K := K) (w := w) (t := nb - (i + 1)) (left := left) (b := c) (by omega) (by rw [hp, hq]; rfl)
                rw [show nb - (i + 1) + 1 = nb - i by omega, hT] at e9
                exact ih _ cg1 (i + 1) _ (by omega) (by omega) hcg1.1 (kv_rk_put hk (by omega) hw) (by rw [kv_put_0 (by decide) (by decide)]; exact hK) (by omega) e9.symm (hf.tr hcg1.2)
              · omega
    | some c =>
      have hc := kv_fill_lt hp
      have hc1 := hk.2.1 c
      refine ce_iload dX3_lay_5 rfl ?_
      refine ce_aload_n dX3_lay_7 rfl ?_
      refine ce_getIv dX3_lay_8 fRX3_21 (hL).1 (hr).1 ?_
      refine ce_icmp_geN (tgt := 79) dX3_lay_11 (by decide) rfl rfl (by omega) (by omega) (fun c_11 => ?_) (fun c_11 => ?_)
      · exact ce_vret dX3_lay_79 rfl (by decide) (by decide) ⟨rfl, rfl, ⟨(show K = T by rw [← hT, show nb - i = 0 by omega]; rfl) ▸ hr, hf⟩⟩
      · refine ce_iload_n dX3_lay_14 rfl ?_
        refine ce_if_leN (tgt := 79) dX3_lay_15 (by decide) rfl (by omega) (fun c_15 => ?_) (fun c_15 => ?_)
        · exact ce_vret dX3_lay_79 rfl (by decide) (by decide) ⟨rfl, rfl, ⟨(show K = T by rw [← hT, show left = 0 by omega, kv_lay_0]) ▸ hr, hf⟩⟩
        · refine ce_aload_n dX3_lay_18 rfl ?_
          refine ce_iload_n dX3_lay_19 rfl ?_
          refine ce_cVp dX3_lay_20 hX3_binToFillUp kRX3_34 (n_X3_binToFillUp h K hL hr hk (w) hw (nI (c)) (by rw [hp]; rfl)) rfl rfl (hL).1 rfl (by decide) (Nat.le_of_ble_eq_true rfl) ?_
          refine ce_istore dX3_lay_23 (Nat.le_of_ble_eq_true rfl) rfl ?_
          refine ce_iload dX3_lay_25 rfl ?_
          refine ce_ldc dX3_lay_27 kRX3_25 ?_
          refine ce_icmp_neI (p := ((c : Nat) : Int)) (q := (-99999)) (tgt := 39) dX3_lay_29 (by decide) (nI_toInt (by omega)) (by decide) (fun c_29 => ?_) (fun c_29 => ?_)
          · refine ce_iload dX3_lay_39 rfl ?_
            refine ce_ldc dX3_lay_41 kRX3_25 ?_
            refine ce_icmp_neI (p := ((c : Nat) : Int)) (q := (-99999)) (tgt := 47) dX3_lay_43 (by decide) (nI_toInt (by omega)) (by decide) (fun c_43 => ?_) (fun c_43 => ?_)
            · refine ce_iload_n dX3_lay_47 rfl ?_
              refine ce_aload_n dX3_lay_48 rfl ?_
              refine ce_iload dX3_lay_49 rfl ?_
              refine ce_cVp dX3_lay_51 hX3_roomIn kRX3_26 (m_X3_roomIn h K hL hr hk (c) (by omega)) rfl rfl (hL).1 rfl (by decide) (Nat.le_of_ble_eq_true rfl) ?_
              refine ce_min dX3_lay_54 kRX3_40 rfl rfl (by omega) (by omega) (by decide) (Nat.le_of_ble_eq_true rfl) ?_
              refine ce_istore dX3_lay_57 (Nat.le_of_ble_eq_true rfl) rfl ?_
              refine ce_aload_n dX3_lay_59 rfl ?_
              refine ce_iload dX3_lay_60 rfl ?_
              refine ce_iload_n dX3_lay_62 rfl ?_
              refine ce_iload dX3_lay_63 rfl ?_
              refine ce_cVu dX3_lay_65 hX3_putInto kRX3_46 (m_X3_putInto h K hL hr (c) (w) (min (left) (K 11 (c) - K 12 (c))) (by omega) (by omega)) rfl rfl (hL).1 rfl (by decide) (Nat.le_of_ble_eq_true rfl) (fun cg1 hcg1 => ?_)
              refine ce_iload_n dX3_lay_68 rfl ?_
              refine ce_iload dX3_lay_69 rfl ?_
              refine ce_isub (z := nI (left - (min (left) (K 11 (c) - K 12 (c))))) dX3_lay_71 (pk_sub (by omega)) ?_
              refine ce_istore_n dX3_lay_72 (Nat.le_of_ble_eq_true rfl) rfl ?_
              refine ce_iinc (v := nI (i + 1)) dX3_lay_73 rfl (ce_inc1 _) (Nat.le_of_ble_eq_true rfl) rfl ?_
              refine ce_goto (tgt := 5) dX3_lay_76 (by decide) ?_
              refine ce_drop (L' := [some (.ref (h)), some (.int (nI (w))), none, some (.int (nI (left - (min (left) (K 11 (c) - K 12 (c)))))), some (.int (nI (i + 1))), none, none]) (ce_le_s rfl (ce_le_s rfl (ce_le_n (ce_le_s rfl (ce_le_s rfl (ce_le_n (ce_le_n ce_le_e))))))) ?_
              have e9 := kv_lay_some (K := K) (w := w) (t := nb - (i + 1)) (left := left) (b := c) (by omega) (by rw [hp]; rfl)
              rw [show nb - (i + 1) + 1 = nb - i by omega, hT] at e9
              exact ih _ cg1 (i + 1) _ (by omega) (by omega) hcg1.1 (kv_rk_put hk (by omega) hw) (by rw [kv_put_0 (by decide) (by decide)]; exact hK) (by omega) e9.symm (hf.tr hcg1.2)
            · omega
          · omega
set_option maxHeartbeats 2000000 in
set_option maxRecDepth 20000 in
theorem m_X3_lay {σ : ce_S} {g : ce_D} (h : Nat) (K : ce_V) (hL : ce_LK σ h) (hr : ce_rK g h K) (hk : kv_rk K) (w q : Nat) (hw : w < 6) (hq : q < 100000) : ce_CT (ce_r 2) mX3_lay [.ref (h), .int (nI (w)), .int (nI (q))] σ g (ce_uv σ (fun g' => ce_rK g' h (kv_lay w (K 0 2) q K) ∧ ce_fr h (h + 4) g g')) ce_no := by
  have hB := hk.1
  refine ce_enter (by decide) rfl (Nat.le_of_ble_eq_true rfl) (L := [some (.ref (h)), some (.int (nI (w))), some (.int (nI (q))), none, none, none, none]) rfl ?_
  refine ce_iload_n dX3_lay_0 rfl ?_
  refine ce_istore_n dX3_lay_1 (Nat.le_of_ble_eq_true rfl) rfl ?_
  refine ce_iconst (v := nI (0)) dX3_lay_2 (by decide) ?_
  refine ce_istore dX3_lay_3 (Nat.le_of_ble_eq_true rfl) rfl ?_
  refine ce_drop (L' := [some (.ref (h)), some (.int (nI (w))), none, some (.int (nI (q))), some (.int (nI (0))), none, none]) (ce_le_s rfl (ce_le_s rfl (ce_le_n (ce_le_s rfl (ce_le_s rfl (ce_le_n (ce_le_n ce_le_e))))))) ?_
  exact w_X3_lay h hL g _ (K 0 2) w hw (K 0 2 + 1) K g 0 q (by omega) (by omega) hr hk rfl hq rfl ce_fr.rf
set_option maxHeartbeats 2000000 in
set_option maxRecDepth 20000 in
theorem w_X3_take {σ : ce_S} (h : Nat) (hL : ce_LK σ h) (g0 : ce_D) (T : ce_V) (nb : Nat) (w : Nat) (hw : w < 6) : ∀ (n9 : Nat) (K : ce_V) (g : ce_D) (i left : Nat), nb - i < n9 → i ≤ nb → ce_rK g h K → kv_rk K → K 0 2 = nb → left < 100000 → kv_take w (nb - i) left K = T → ce_fr h (h + 4) g0 g → ce_WP (ce_r 1) mX3_take 0 0 5 [some (.ref (h)), some (.int (nI (w))), none, some (.int (nI (left))), some (.int (nI (i))), none, none] [] σ g (ce_uv σ (fun g' => ce_rK g' h T ∧ ce_fr h (h + 4) g0 g')) ce_no := by
  intro n9
  induction n9 with
  | zero =>
    intros
    omega
  | succ n9 ih =>
    intro K g i left hm hi hr hk hK hl hT hf
    have hB := hk.1
    cases hp : kv_tf K w (K 0 2) with
    | none =>
      refine ce_iload dX3_take_5 rfl ?_
      refine ce_aload_n dX3_take_7 rfl ?_
      refine ce_getIv dX3_take_8 fRX3_21 (hL).1 (hr).1 ?_
      refine ce_icmp_geN (tgt := 65) dX3_take_11 (by decide) rfl rfl (by omega) (by omega) (fun c_11 => ?_) (fun c_11 => ?_)
      · exact ce_vret dX3_take_65 rfl (by decide) (by decide) ⟨rfl, rfl, ⟨(show K = T by rw [← hT, show nb - i = 0 by omega]; rfl) ▸ hr, hf⟩⟩
      · refine ce_iload_n dX3_take_14 rfl ?_
        refine ce_if_leN (tgt := 65) dX3_take_15 (by decide) rfl (by omega) (fun c_15 => ?_) (fun c_15 => ?_)
        · exact ce_vret dX3_take_65 rfl (by decide) (by decide) ⟨rfl, rfl, ⟨(show K = T by rw [← hT, show left = 0 by omega, kv_take_0]) ▸ hr, hf⟩⟩
        · refine ce_aload_n dX3_take_18 rfl ?_
          refine ce_iload_n dX3_take_19 rfl ?_
          refine ce_cVp dX3_take_20 hX3_binToTakeFrom kRX3_54 (n_X3_binToTakeFrom h K hL hr hk (w) hw ((-99999)) (by rw [hp]; rfl)) rfl rfl (hL).1 rfl (by decide) (Nat.le_of_ble_eq_true rfl) ?_
          refine ce_istore dX3_take_23 (Nat.le_of_ble_eq_true rfl) rfl ?_
          refine ce_iload dX3_take_25 rfl ?_
          refine ce_ldc dX3_take_27 kRX3_25 ?_
          refine ce_icmp_neI (p := (-99999)) (q := (-99999)) (tgt := 33) dX3_take_29 (by decide) (by decide) (by decide) (fun c_29 => ?_) (fun c_29 => ?_)
          · omega
          · exact ce_vret dX3_take_32 rfl (by decide) (by decide) ⟨rfl, rfl, ⟨(show K = T by rw [← hT, kv_take_none hp]) ▸ hr, hf⟩⟩
    | some c =>
      have hc := kv_tf_lt hp
      have hc1 := hk.2.1 c
      refine ce_iload dX3_take_5 rfl ?_
      refine ce_aload_n dX3_take_7 rfl ?_
      refine ce_getIv dX3_take_8 fRX3_21 (hL).1 (hr).1 ?_
      refine ce_icmp_geN (tgt := 65) dX3_take_11 (by decide) rfl rfl (by omega) (by omega) (fun c_11 => ?_) (fun c_11 => ?_)
      · exact ce_vret dX3_take_65 rfl (by decide) (by decide) ⟨rfl, rfl, ⟨(show K = T by rw [← hT, show nb - i = 0 by omega]; rfl) ▸ hr, hf⟩⟩
      · refine ce_iload_n dX3_take_14 rfl ?_
        refine ce_if_leN (tgt := 65) dX3_take_15 (by decide) rfl (by omega) (fun c_15 => ?_) (fun c_15 => ?_)
        · exact ce_vret dX3_take_65 rfl (by decide) (by decide) ⟨rfl, rfl, ⟨(show K = T by rw [← hT, show left = 0 by omega, kv_take_0]) ▸ hr, hf⟩⟩
        · refine ce_aload_n dX3_take_18 rfl ?_
          refine ce_iload_n dX3_take_19 rfl ?_
          refine ce_cVp dX3_take_20 hX3_binToTakeFrom kRX3_54 (n_X3_binToTakeFrom h K hL hr hk (w) hw (nI (c)) (by rw [hp]; rfl)) rfl rfl (hL).1 rfl (by decide) (Nat.le_of_ble_eq_true rfl) ?_
          refine ce_istore dX3_take_23 (Nat.le_of_ble_eq_true rfl) rfl ?_
          refine ce_iload dX3_take_25 rfl ?_
          refine ce_ldc dX3_take_27 kRX3_25 ?_
          refine ce_icmp_neI (p := ((c : Nat) : Int)) (q := (-99999)) (tgt := 33) dX3_take_29 (by decide) (nI_toInt (by omega)) (by decide) (fun c_29 => ?_) (fun c_29 => ?_)
          · refine ce_iload_n dX3_take_33 rfl ?_
            refine ce_aload_n dX3_take_34 rfl ?_
            refine ce_getR dX3_take_35 fRX3_18 (hL).1 (hL).2.1.2.2 ?_
            refine ce_iload dX3_take_38 rfl ?_
            refine ce_ialdv dX3_take_40 ((hL).2.2.2.2).1 rfl ((hL).2.2.2.2).2 (by omega) (by decide) ((hr).2.2.2 _ (by omega)) ?_
            refine ce_min dX3_take_41 kRX3_40 rfl rfl (by omega) (by omega) (by decide) (Nat.le_of_ble_eq_true rfl) ?_
            refine ce_istore dX3_take_44 (Nat.le_of_ble_eq_true rfl) rfl ?_
            refine ce_aload_n dX3_take_46 rfl ?_
            refine ce_iload dX3_take_47 rfl ?_
            refine ce_iload dX3_take_49 rfl ?_
            refine ce_cVu dX3_take_51 hX3_removeFrom kRX3_57 (m_X3_removeFrom h K hL hr (c) (min (left) (K 12 (c))) (by omega) (by omega) (by omega)) rfl rfl (hL).1 rfl (by decide) (Nat.le_of_ble_eq_true rfl) (fun cg1 hcg1 => ?_)
            refine ce_iload_n dX3_take_54 rfl ?_
            refine ce_iload dX3_take_55 rfl ?_
            refine ce_isub (z := nI (left - (min (left) (K 12 (c))))) dX3_take_57 (pk_sub (by omega)) ?_
            refine ce_istore_n dX3_take_58 (Nat.le_of_ble_eq_true rfl) rfl ?_
            refine ce_iinc (v := nI (i + 1)) dX3_take_59 rfl (ce_inc1 _) (Nat.le_of_ble_eq_true rfl) rfl ?_
            refine ce_goto (tgt := 5) dX3_take_62 (by decide) ?_
            refine ce_drop (L' := [some (.ref (h)), some (.int (nI (w))), none, some (.int (nI (left - (min (left) (K 12 (c)))))), some (.int (nI (i + 1))), none, none]) (ce_le_s rfl (ce_le_s rfl (ce_le_n (ce_le_s rfl (ce_le_s rfl (ce_le_n (ce_le_n ce_le_e))))))) ?_
            have e9 := kv_take_some (K := K) (w := w) (t := nb - (i + 1)) (left := left) (b := c) (by omega) hp
            rw [show nb - (i + 1) + 1 = nb - i by omega, hT] at e9
            exact ih _ cg1 (i + 1) _ (by omega) (by omega) hcg1.1 (kv_rk_rem hk) (by rw [kv_rem_0 (by decide)]; exact hK) (by omega) e9.symm (hf.tr hcg1.2)
          · omega
set_option maxHeartbeats 2000000 in
set_option maxRecDepth 20000 in
theorem m_X3_take {σ : ce_S} {g : ce_D} (h : Nat) (K : ce_V) (hL : ce_LK σ h) (hr : ce_rK g h K) (hk : kv_rk K) (w q : Nat) (hw : w < 6) (hq : q < 100000) : ce_CT (ce_r 1) mX3_take [.ref (h), .int (nI (w)), .int (nI (q))] σ g (ce_uv σ (fun g' => ce_rK g' h (kv_take w (K 0 2) q K) ∧ ce_fr h (h + 4) g g')) ce_no := by
  have hB := hk.1
  refine ce_enter (by decide) rfl (Nat.le_of_ble_eq_true rfl) (L := [some (.ref (h)), some (.int (nI (w))), some (.int (nI (q))), none, none, none, none]) rfl ?_
  refine ce_iload_n dX3_take_0 rfl ?_
  refine ce_istore_n dX3_take_1 (Nat.le_of_ble_eq_true rfl) rfl ?_
  refine ce_iconst (v := nI (0)) dX3_take_2 (by decide) ?_
  refine ce_istore dX3_take_3 (Nat.le_of_ble_eq_true rfl) rfl ?_
  refine ce_drop (L' := [some (.ref (h)), some (.int (nI (w))), none, some (.int (nI (q))), some (.int (nI (0))), none, none]) (ce_le_s rfl (ce_le_s rfl (ce_le_n (ce_le_s rfl (ce_le_s rfl (ce_le_n (ce_le_n ce_le_e))))))) ?_
  exact w_X3_take h hL g _ (K 0 2) w hw (K 0 2 + 1) K g 0 q (by omega) (by omega) hr hk rfl hq rfl ce_fr.rf
set_option maxHeartbeats 2000000 in
set_option maxRecDepth 20000 in
theorem m_X3_carryFault {σ : ce_S} {g : ce_D} (h : Nat) (K : ce_V) (hL : ce_LK σ h) (hr : ce_rK g h K) (hk : kv_rk K) (x y n : Int32) : ce_CT (ce_r 1) mX3_carryFault [.ref (h), .int (x), .int (y), .int (n)] σ g (ce_pv (nI (kv_carF K x y n)) σ g) ce_no := by
  have hB := hk.1
  refine ce_enter (by decide) rfl (Nat.le_of_ble_eq_true rfl) (L := [some (.ref (h)), some (.int (x)), some (.int (y)), some (.int (n))]) rfl ?_
  refine ce_aload_n dX3_carryFault_0 rfl ?_
  refine ce_iload_n dX3_carryFault_1 rfl ?_
  refine ce_cVp dX3_carryFault_2 hX3_knows kRX3_61 (m_X3_knows h K hL hr hk (x)) rfl rfl (hL).1 rfl (by decide) (Nat.le_of_ble_eq_true rfl) ?_
  refine ce_if_eqB (tgt := 16) dX3_carryFault_5 (by decide) rfl (fun c_5 => ?_) (fun c_5 => ?_)
  · refine ce_iconst (v := nI (1)) dX3_carryFault_16 (by decide) ?_
    refine ce_iret dX3_carryFault_17 rfl rfl (by decide) (by decide) ?_
    exact ⟨congrArg (fun z => some (Value.int z)) (congrArg nI (by rw [show kv_carF K x y n = 1 from if_neg (by first | exact fun e => c_5 e.1 | exact fun e => c_13 e.2)])), rfl, rfl⟩
  · refine ce_aload_n dX3_carryFault_8 rfl ?_
    refine ce_iload_n dX3_carryFault_9 rfl ?_
    refine ce_cVp dX3_carryFault_10 hX3_knows kRX3_61 (m_X3_knows h K hL hr hk (y)) rfl rfl (hL).1 rfl (by decide) (Nat.le_of_ble_eq_true rfl) ?_
    refine ce_if_neB (tgt := 18) dX3_carryFault_13 (by decide) rfl (fun c_13 => ?_) (fun c_13 => ?_)
    · obtain ⟨a, ha, rfl⟩ := ce_in_ex c_5
      have ea := nI_toInt (n := a) (by omega)
      obtain ⟨b, hb, rfl⟩ := ce_in_ex c_13
      have eb := nI_toInt (n := b) (by omega)
      have hk1 := hk.2.1 a
      have hk2 := hk.2.1 b
      refine ce_iload_n dX3_carryFault_18 rfl ?_
      refine ce_iload_n dX3_carryFault_19 rfl ?_
      refine ce_icmp_eqN (tgt := 34) dX3_carryFault_20 (by decide) rfl rfl (by omega) (by omega) (fun c_20 => ?_) (fun c_20 => ?_)
      · refine ce_iconst (v := nI (2)) dX3_carryFault_34 (by decide) ?_
        refine ce_iret dX3_carryFault_35 rfl rfl (by decide) (by decide) ?_
        exact ⟨congrArg (fun z => some (Value.int z)) (congrArg nI (show 2 = kv_carF K _ _ _ by unfold kv_carF ce_n; try simp only [Int.toNat_natCast, ea, eb]; unfold ce_in at *; (repeat' split) <;> first | rfl | (exfalso; omega))), rfl, rfl⟩
      · refine ce_iload_n dX3_carryFault_23 rfl ?_
        refine ce_iconst (v := nI (1)) dX3_carryFault_24 (by decide) ?_
        refine ce_icmp_ltI (p := (n).toInt) (q := ((1 : Nat) : Int)) (tgt := 34) dX3_carryFault_25 (by decide) rfl (nI_toInt (by omega)) (fun c_25 => ?_) (fun c_25 => ?_)
        · refine ce_iconst (v := nI (2)) dX3_carryFault_34 (by decide) ?_
          refine ce_iret dX3_carryFault_35 rfl rfl (by decide) (by decide) ?_
          exact ⟨congrArg (fun z => some (Value.int z)) (congrArg nI (show 2 = kv_carF K _ _ _ by unfold kv_carF ce_n; try simp only [Int.toNat_natCast, ea, eb]; unfold ce_in at *; (repeat' split) <;> first | rfl | (exfalso; omega))), rfl, rfl⟩
        · refine ce_iload_n dX3_carryFault_28 rfl ?_
          refine ce_bipush (v := nI (24)) dX3_carryFault_29 (by decide) ?_
          refine ce_icmp_leI (p := (n).toInt) (q := ((24 : Nat) : Int)) (tgt := 36) dX3_carryFault_31 (by decide) rfl (nI_toInt (by omega)) (fun c_31 => ?_) (fun c_31 => ?_)
          · obtain ⟨q, hq, hq2, rfl⟩ :=  (ce_ran_ex (lo := 1) (hi := 24) (x := n) ⟨by omega, by omega⟩)
            have eq := nI_toInt (n := q) (by omega)
            refine ce_aload_n dX3_carryFault_36 rfl ?_
            refine ce_getR dX3_carryFault_37 fRX3_18 (hL).1 (hL).2.1.2.2 ?_
            refine ce_iload_n dX3_carryFault_40 rfl ?_
            refine ce_ialdv dX3_carryFault_41 ((hL).2.2.2.2).1 rfl ((hL).2.2.2.2).2 (by omega) (by decide) ((hr).2.2.2 _ (by omega)) ?_
            refine ce_iload_n dX3_carryFault_42 rfl ?_
            refine ce_icmp_ltN (tgt := 69) dX3_carryFault_43 (by decide) rfl rfl (by omega) (by omega) (fun c_43 => ?_) (fun c_43 => ?_)
            · refine ce_iconst (v := nI (3)) dX3_carryFault_69 (by decide) ?_
              refine ce_iret dX3_carryFault_70 rfl rfl (by decide) (by decide) ?_
              exact ⟨congrArg (fun z => some (Value.int z)) (congrArg nI (show 3 = kv_carF K _ _ _ by unfold kv_carF ce_n; try simp only [Int.toNat_natCast, ea, eb, eq]; unfold ce_in at *; (repeat' split) <;> first | rfl | (exfalso; omega))), rfl, rfl⟩
            · refine ce_aload_n dX3_carryFault_46 rfl ?_
              refine ce_iload_n dX3_carryFault_47 rfl ?_
              refine ce_aload_n dX3_carryFault_48 rfl ?_
              refine ce_getR dX3_carryFault_49 fRX3_15 (hL).1 (hL).2.1.2.1 ?_
              refine ce_iload_n dX3_carryFault_52 rfl ?_
              refine ce_ialdv dX3_carryFault_53 ((hL).2.2.2.1).1 rfl ((hL).2.2.2.1).2 (by omega) (by decide) ((hr).2.2.1 _ (by omega)) ?_
              refine ce_cVp dX3_carryFault_54 hX3_takesWine kRX3_30 (m_X3_takesWine h K hL hr hk (b) (ce_wi K (a)) (by omega)) rfl rfl (hL).1 rfl (by decide) (Nat.le_of_ble_eq_true rfl) ?_
              refine ce_if_eqB (tgt := 69) dX3_carryFault_57 (by decide) rfl (fun c_57 => ?_) (fun c_57 => ?_)
              · refine ce_iconst (v := nI (3)) dX3_carryFault_69 (by decide) ?_
                refine ce_iret dX3_carryFault_70 rfl rfl (by decide) (by decide) ?_
                exact ⟨congrArg (fun z => some (Value.int z)) (congrArg nI (show 3 = kv_carF K _ _ _ by rw [ce_wi_eq hk (by omega)] at c_57; unfold kv_carF ce_n; try simp only [Int.toNat_natCast, ea, eb, eq]; unfold ce_in at *; (repeat' split) <;> first | rfl | (exfalso; omega))), rfl, rfl⟩
              · refine ce_aload_n dX3_carryFault_60 rfl ?_
                refine ce_iload_n dX3_carryFault_61 rfl ?_
                refine ce_cVp dX3_carryFault_62 hX3_roomIn kRX3_26 (m_X3_roomIn h K hL hr hk (b) (by omega)) rfl rfl (hL).1 rfl (by decide) (Nat.le_of_ble_eq_true rfl) ?_
                refine ce_iload_n dX3_carryFault_65 rfl ?_
                refine ce_icmp_geN (tgt := 71) dX3_carryFault_66 (by decide) rfl rfl (by omega) (by omega) (fun c_66 => ?_) (fun c_66 => ?_)
                · refine ce_iconst (v := nI (0)) dX3_carryFault_71 (by decide) ?_
                  refine ce_iret dX3_carryFault_72 rfl rfl (by decide) (by decide) ?_
                  exact ⟨congrArg (fun z => some (Value.int z)) (congrArg nI (show 0 = kv_carF K _ _ _ by rw [ce_wi_eq hk (by omega)] at c_57; unfold kv_carF ce_n; try simp only [Int.toNat_natCast, ea, eb, eq]; unfold ce_in at *; (repeat' split) <;> first | rfl | (exfalso; omega))), rfl, rfl⟩
                · refine ce_iconst (v := nI (3)) dX3_carryFault_69 (by decide) ?_
                  refine ce_iret dX3_carryFault_70 rfl rfl (by decide) (by decide) ?_
                  exact ⟨congrArg (fun z => some (Value.int z)) (congrArg nI (show 3 = kv_carF K _ _ _ by rw [ce_wi_eq hk (by omega)] at c_57; unfold kv_carF ce_n; try simp only [Int.toNat_natCast, ea, eb, eq]; unfold ce_in at *; (repeat' split) <;> first | rfl | (exfalso; omega))), rfl, rfl⟩
          · refine ce_iconst (v := nI (2)) dX3_carryFault_34 (by decide) ?_
            refine ce_iret dX3_carryFault_35 rfl rfl (by decide) (by decide) ?_
            exact ⟨congrArg (fun z => some (Value.int z)) (congrArg nI (show 2 = kv_carF K _ _ _ by unfold kv_carF ce_n; try simp only [Int.toNat_natCast, ea, eb]; unfold ce_in at *; (repeat' split) <;> first | rfl | (exfalso; omega))), rfl, rfl⟩
    · refine ce_iconst (v := nI (1)) dX3_carryFault_16 (by decide) ?_
      refine ce_iret dX3_carryFault_17 rfl rfl (by decide) (by decide) ?_
      exact ⟨congrArg (fun z => some (Value.int z)) (congrArg nI (by rw [show kv_carF K x y n = 1 from if_neg (by first | exact fun e => c_5 e.1 | exact fun e => c_13 e.2)])), rfl, rfl⟩
set_option maxHeartbeats 2000000 in
set_option maxRecDepth 20000 in
theorem m_X3_carry {σ : ce_S} {g : ce_D} (h : Nat) (K : ce_V) (hL : ce_LK σ h) (hr : ce_rK g h K) (hk : kv_rk K) (a b n : Nat) (ha : a < K 0 2) (hb : b < K 0 2) (hab : a ≠ b) (hn : 0 < n ∧ n ≤ K 12 a) (hm : K 12 b + n ≤ K 11 b) : ce_CT (ce_r 1) mX3_carry [.ref (h), .int (nI (a)), .int (nI (b)), .int (nI (n))] σ g (ce_rv σ (fun r g' => r = nI (K 12 b + n) ∧ ce_rK g' h (kv_car K a b n) ∧ ce_fr h (h + 4) g g')) ce_no := by
  have hB := hk.1
  have hk1 := hk.2.1 a
  have hk2 := hk.2.1 b
  have e8 : n ≤ kv_put K b (K 13 a - 1) n 12 a := by rw [kv_put_12, if_neg hab]; exact hn.2
  have e7 : kv_put K b (K 13 a - 1) n 12 a < 1000 := by rw [kv_put_12, if_neg hab]; omega
  refine ce_enter (by decide) rfl (Nat.le_of_ble_eq_true rfl) (L := [some (.ref (h)), some (.int (nI (a))), some (.int (nI (b))), some (.int (nI (n)))]) rfl ?_
  refine ce_aload_n dX3_carry_0 rfl ?_
  refine ce_iload_n dX3_carry_1 rfl ?_
  refine ce_aload_n dX3_carry_2 rfl ?_
  refine ce_getR dX3_carry_3 fRX3_15 (hL).1 (hL).2.1.2.1 ?_
  refine ce_iload_n dX3_carry_6 rfl ?_
  refine ce_ialdv dX3_carry_7 ((hL).2.2.2.1).1 rfl ((hL).2.2.2.1).2 (by omega) (by decide) ((hr.2.2.1 a (by omega)).trans (if_neg (by omega))) ?_
  refine ce_iload_n dX3_carry_8 rfl ?_
  refine ce_cVu dX3_carry_9 hX3_putInto kRX3_46 (m_X3_putInto h K hL hr b (K 13 a - 1) n (by omega) (by omega)) rfl rfl (hL).1 rfl (by decide) (Nat.le_of_ble_eq_true rfl) (fun cg1 hcg1 => ?_)
  refine ce_aload_n dX3_carry_12 rfl ?_
  refine ce_iload_n dX3_carry_13 rfl ?_
  refine ce_iload_n dX3_carry_14 rfl ?_
  refine ce_cVu dX3_carry_15 hX3_removeFrom kRX3_57 (m_X3_removeFrom h _ hL hcg1.1 a n (by omega) e8 e7) rfl rfl (hL).1 rfl (by decide) (Nat.le_of_ble_eq_true rfl) (fun cg2 hcg2 => ?_)
  have e9 : cg2 (h + 3) b = nI (K 12 b + n) := by
    rw [hcg2.1.2.2.2 b (by omega)]
    rw [kv_rem_12, if_neg (by omega), kv_put_12, if_pos rfl]
  refine ce_aload_n dX3_carry_18 rfl ?_
  refine ce_getR dX3_carry_19 fRX3_18 (hL).1 (hL).2.1.2.2 ?_
  refine ce_iload_n dX3_carry_22 rfl ?_
  refine ce_ialdv dX3_carry_23 ((hL).2.2.2.2).1 rfl ((hL).2.2.2.2).2 (by omega) (by decide) e9 ?_
  refine ce_iret dX3_carry_24 rfl rfl (by decide) (by decide) ?_
  exact ⟨_, rfl, rfl, rfl, hcg2.1, hcg1.2.tr hcg2.2⟩
set_option maxHeartbeats 2000000 in
set_option maxRecDepth 20000 in
theorem m_X3_install {σ : ce_S} {g : ce_D} (h : Nat) (K : ce_V) (hL : ce_LK σ h) (hr : ce_rK g h K) (hk : kv_rk K) (n : Nat) (hb : K 0 2 < 8) : ce_CT (ce_r 0) mX3_install [.ref (h), .int (nI (n))] σ g (ce_rv σ (fun r g' => r = nI (K 0 2) ∧ ce_rK g' h (kv_inst K n) ∧ ce_fr h (h + 4) g g')) ce_no := by
  have hB := hk.1
  refine ce_enter (by decide) rfl (Nat.le_of_ble_eq_true rfl) (L := [some (.ref (h)), some (.int (nI (n))), none]) rfl ?_
  refine ce_aload_n dX3_install_0 rfl ?_
  refine ce_getIv dX3_install_1 fRX3_21 (hL).1 hr.1 ?_
  refine ce_istore_n dX3_install_4 (Nat.le_of_ble_eq_true rfl) rfl ?_
  refine ce_aload_n dX3_install_5 rfl ?_
  refine ce_getR dX3_install_6 fRX3_9 (hL).1 (hL).2.1.1 ?_
  refine ce_iload_n dX3_install_9 rfl ?_
  refine ce_iload_n dX3_install_10 rfl ?_
  refine ce_iast dX3_install_11 ((hL).2.2.1).1 rfl ((hL).2.2.1).2 (by omega) (by decide) ?_
  generalize hcg1 : ce_up g (h + 1) (K 0 2) (nI (n)) = cg1
  refine ce_aload_n dX3_install_12 rfl ?_
  refine ce_getR dX3_install_13 fRX3_15 (hL).1 (hL).2.1.2.1 ?_
  refine ce_iload_n dX3_install_16 rfl ?_
  refine ce_ldc dX3_install_17 kRX3_25 ?_
  refine ce_iast dX3_install_19 ((hL).2.2.2.1).1 rfl ((hL).2.2.2.1).2 (by omega) (by decide) ?_
  generalize hcg2 : ce_up cg1 (h + 2) (K 0 2) ((-99999)) = cg2
  have e9 : cg2 h 0 = nI (K 0 2) := by rw [← hcg2, ← hcg1, ce_up_ne _ _ _ (by omega), ce_up_ne _ _ _ (by omega)]; exact hr.1
  refine ce_aload_n dX3_install_20 rfl ?_
  refine ce_dup dX3_install_21 rfl ?_
  refine ce_getIv dX3_install_22 fRX3_21 (hL).1 e9 ?_
  refine ce_iconst (v := nI (1)) dX3_install_25 (by decide) ?_
  refine ce_iadd (z := nI (K 0 2 + 1)) dX3_install_26 (nI_add _ _) ?_
  refine ce_putI dX3_install_27 pRX3_21 (hL).1 rfl rfl ?_
  generalize hcg3 : ce_up cg2 (h) 0 (nI (K 0 2 + 1)) = cg3
  refine ce_iload_n dX3_install_30 rfl ?_
  refine ce_iret dX3_install_31 rfl rfl (by decide) (by decide) ?_
  subst hcg3; subst hcg2; subst hcg1
  exact ⟨_, rfl, rfl, rfl, kr_inst hr hk, ((ce_fr.rf.up _ _ (by omega)).up _ _ (by omega)).up _ _ (by omega)⟩
set_option maxHeartbeats 2000000 in
set_option maxRecDepth 20000 in
theorem m_X3_copyFrom {σ : ce_S} {g : ce_D} (h o : Nat) (K : ce_V) (hL : ce_LK σ h) (hO : ce_LK σ o) (hr : ce_rK g o K) (hk : kv_rk K) (hd : h + 4 ≤ o ∨ o + 4 ≤ h) : ce_CT (ce_r 2) mX3_copyFrom [.ref (h), .ref (o)] σ g (ce_uv σ (fun g' => ce_rK g' h K ∧ ce_fr h (h + 4) g g')) ce_no := by
  refine ce_enter (by decide) rfl (Nat.le_of_ble_eq_true rfl) (L := [some (.ref (h)), some (.ref (o))]) rfl ?_
  refine ce_aload_n dX3_copyFrom_0 rfl ?_
  refine ce_aload_n dX3_copyFrom_1 rfl ?_
  refine ce_getI dX3_copyFrom_2 fRX3_21 (hO).1 ?_
  refine ce_putI dX3_copyFrom_5 pRX3_21 (hL).1 rfl rfl ?_
  generalize hcg1 : ce_up g (h) 0 (g (o) 0) = cg1
  refine ce_aload_n dX3_copyFrom_8 rfl ?_
  refine ce_getR dX3_copyFrom_9 fRX3_9 (hO).1 (hO).2.1.1 ?_
  refine ce_aload_n dX3_copyFrom_12 rfl ?_
  refine ce_getR dX3_copyFrom_13 fRX3_9 (hL).1 (hL).2.1.1 ?_
  refine ce_cSNu dX3_copyFrom_16 hX7_copyRow kRX3_65 (m_X7_copyRow (o + 1) (h + 1) 8 ⟨((hO).2.2.1).1, ((hO).2.2.1).2⟩ ⟨((hL).2.2.1).1, ((hL).2.2.1).2⟩ (by decide)) rfl rfl (by decide) (Nat.le_of_ble_eq_true rfl) (fun cg2 hcg2 => ?_)
  refine ce_aload_n dX3_copyFrom_19 rfl ?_
  refine ce_getR dX3_copyFrom_20 fRX3_15 (hO).1 (hO).2.1.2.1 ?_
  refine ce_aload_n dX3_copyFrom_23 rfl ?_
  refine ce_getR dX3_copyFrom_24 fRX3_15 (hL).1 (hL).2.1.2.1 ?_
  refine ce_cSNu dX3_copyFrom_27 hX7_copyRow kRX3_65 (m_X7_copyRow (o + 2) (h + 2) 8 ⟨((hO).2.2.2.1).1, ((hO).2.2.2.1).2⟩ ⟨((hL).2.2.2.1).1, ((hL).2.2.2.1).2⟩ (by decide)) rfl rfl (by decide) (Nat.le_of_ble_eq_true rfl) (fun cg3 hcg3 => ?_)
  refine ce_aload_n dX3_copyFrom_30 rfl ?_
  refine ce_getR dX3_copyFrom_31 fRX3_18 (hO).1 (hO).2.1.2.2 ?_
  refine ce_aload_n dX3_copyFrom_34 rfl ?_
  refine ce_getR dX3_copyFrom_35 fRX3_18 (hL).1 (hL).2.1.2.2 ?_
  refine ce_cSNu dX3_copyFrom_38 hX7_copyRow kRX3_65 (m_X7_copyRow (o + 3) (h + 3) 8 ⟨((hO).2.2.2.2).1, ((hO).2.2.2.2).2⟩ ⟨((hL).2.2.2.2).1, ((hL).2.2.2.2).2⟩ (by decide)) rfl rfl (by decide) (Nat.le_of_ble_eq_true rfl) (fun cg4 hcg4 => ?_)
  exact ce_vret dX3_copyFrom_41 rfl (by decide) (by decide) ⟨rfl, rfl, (by subst hcg4; subst hcg3; subst hcg2; subst hcg1; exact ⟨kr_copy hr hk hd, (((ce_fr.rf.up _ _ (by omega)).cp (by omega)).cp (by omega)).cp (by omega)⟩)⟩
