set_option maxHeartbeats 2000000 in
set_option maxRecDepth 20000 in
theorem m_X0_knowsMember {σ : ce_S} {g : ce_D} (c : Nat) (K : ce_V) (O : Nat → Int32) (hL : ce_LC σ c) (hr : ce_rC g c K O) (hk : kv_cl K) (x : Int32) : ce_CT (ce_r 0) mX0_knowsMember [.ref (c), .int (x)] σ g (ce_pv (if ce_in x (K 0 0) then 1 else 0) σ g) ce_no := by
  have hB := hk.i7
  have hM := hk.me
  have hW := hk.wi
  refine ce_enter (by decide) rfl (Nat.le_of_ble_eq_true rfl) (L := [some (.ref (c)), some (.int (x))]) rfl ?_
  refine ce_iload_n dX0_knowsMember_0 rfl ?_
  refine ce_if_ltI (tgt := 16) dX0_knowsMember_1 (by decide) (p := (x).toInt) rfl (fun c_1 => ?_) (fun c_1 => ?_)
  · refine ce_iconst (v := nI (0)) dX0_knowsMember_16 (by decide) ?_
    refine ce_iret dX0_knowsMember_17 rfl (by first | rfl | decide | assumption) (by decide) (by decide) ?_
    exact ⟨congrArg (fun z => some (Value.int z)) ((if_neg (by unfold ce_in; omega)).symm), rfl, rfl⟩
  · refine ce_iload_n dX0_knowsMember_4 rfl ?_
    refine ce_aload_n dX0_knowsMember_5 rfl ?_
    refine ce_getIv dX0_knowsMember_6 fRX0_56 (hL).1 (hr).1 ?_
    refine ce_icmp_geI (p := (x).toInt) (q := ((K 0 0 : Nat) : Int)) (tgt := 16) dX0_knowsMember_9 (by decide) rfl (nI_toInt (by omega)) (fun c_9 => ?_) (fun c_9 => ?_)
    · refine ce_iconst (v := nI (0)) dX0_knowsMember_16 (by decide) ?_
      refine ce_iret dX0_knowsMember_17 rfl (by first | rfl | decide | assumption) (by decide) (by decide) ?_
      exact ⟨congrArg (fun z => some (Value.int z)) ((if_neg (by unfold ce_in; omega)).symm), rfl, rfl⟩
    · refine ce_iconst (v := nI (1)) dX0_knowsMember_12 (by decide) ?_
      refine ce_goto (tgt := 17) dX0_knowsMember_13 (by decide) ?_
      refine ce_iret dX0_knowsMember_17 rfl (by first | rfl | decide | assumption) (by decide) (by decide) ?_
      exact ⟨congrArg (fun z => some (Value.int z)) ((if_pos (by unfold ce_in; omega)).symm), rfl, rfl⟩
set_option maxHeartbeats 2000000 in
set_option maxRecDepth 20000 in
theorem m_X0_knowsWine {σ : ce_S} {g : ce_D} (c : Nat) (K : ce_V) (O : Nat → Int32) (hL : ce_LC σ c) (hr : ce_rC g c K O) (hk : kv_cl K) (x : Int32) : ce_CT (ce_r 0) mX0_knowsWine [.ref (c), .int (x)] σ g (ce_pv (if ce_in x (K 0 1) then 1 else 0) σ g) ce_no := by
  have hB := hk.i7
  have hM := hk.me
  have hW := hk.wi
  refine ce_enter (by decide) rfl (Nat.le_of_ble_eq_true rfl) (L := [some (.ref (c)), some (.int (x))]) rfl ?_
  refine ce_iload_n dX0_knowsWine_0 rfl ?_
  refine ce_if_ltI (tgt := 16) dX0_knowsWine_1 (by decide) (p := (x).toInt) rfl (fun c_1 => ?_) (fun c_1 => ?_)
  · refine ce_iconst (v := nI (0)) dX0_knowsWine_16 (by decide) ?_
    refine ce_iret dX0_knowsWine_17 rfl (by first | rfl | decide | assumption) (by decide) (by decide) ?_
    exact ⟨congrArg (fun z => some (Value.int z)) ((if_neg (by unfold ce_in; omega)).symm), rfl, rfl⟩
  · refine ce_iload_n dX0_knowsWine_4 rfl ?_
    refine ce_aload_n dX0_knowsWine_5 rfl ?_
    refine ce_getIv dX0_knowsWine_6 fRX0_60 (hL).1 (hr).2.1 ?_
    refine ce_icmp_geI (p := (x).toInt) (q := ((K 0 1 : Nat) : Int)) (tgt := 16) dX0_knowsWine_9 (by decide) rfl (nI_toInt (by omega)) (fun c_9 => ?_) (fun c_9 => ?_)
    · refine ce_iconst (v := nI (0)) dX0_knowsWine_16 (by decide) ?_
      refine ce_iret dX0_knowsWine_17 rfl (by first | rfl | decide | assumption) (by decide) (by decide) ?_
      exact ⟨congrArg (fun z => some (Value.int z)) ((if_neg (by unfold ce_in; omega)).symm), rfl, rfl⟩
    · refine ce_iconst (v := nI (1)) dX0_knowsWine_12 (by decide) ?_
      refine ce_goto (tgt := 17) dX0_knowsWine_13 (by decide) ?_
      refine ce_iret dX0_knowsWine_17 rfl (by first | rfl | decide | assumption) (by decide) (by decide) ?_
      exact ⟨congrArg (fun z => some (Value.int z)) ((if_pos (by unfold ce_in; omega)).symm), rfl, rfl⟩
set_option maxHeartbeats 2000000 in
set_option maxRecDepth 20000 in
theorem m_X0_knowsBoth {σ : ce_S} {g : ce_D} (c : Nat) (K : ce_V) (O : Nat → Int32) (hL : ce_LC σ c) (hr : ce_rC g c K O) (hk : kv_cl K) (x y : Int32) : ce_CT (ce_r 1) mX0_knowsBoth [.ref (c), .int (x), .int (y)] σ g (ce_pv (if ce_in x (K 0 0) ∧ ce_in y (K 0 1) then 1 else 0) σ g) ce_no := by
  have hB := hk.i7
  have hM := hk.me
  have hW := hk.wi
  refine ce_enter (by decide) rfl (Nat.le_of_ble_eq_true rfl) (L := [some (.ref (c)), some (.int (x)), some (.int (y))]) rfl ?_
  refine ce_aload_n dX0_knowsBoth_0 rfl ?_
  refine ce_iload_n dX0_knowsBoth_1 rfl ?_
  refine ce_cVp dX0_knowsBoth_2 hX0_knowsMember kRX0_63 (m_X0_knowsMember c K O hL hr hk (x)) rfl rfl (hL).1 rfl (by decide) (Nat.le_of_ble_eq_true rfl) ?_
  refine ce_if_eqB (tgt := 20) dX0_knowsBoth_5 (by decide) rfl (fun c_5 => ?_) (fun c_5 => ?_)
  · refine ce_iconst (v := nI (0)) dX0_knowsBoth_20 (by decide) ?_
    refine ce_iret dX0_knowsBoth_21 rfl (by first | rfl | decide | assumption) (by decide) (by decide) ?_
    exact ⟨congrArg (fun z => some (Value.int z)) ((if_neg (fun e => c_5 e.1)).symm), rfl, rfl⟩
  · refine ce_aload_n dX0_knowsBoth_8 rfl ?_
    refine ce_iload_n dX0_knowsBoth_9 rfl ?_
    refine ce_cVp dX0_knowsBoth_10 hX0_knowsWine kRX0_67 (m_X0_knowsWine c K O hL hr hk (y)) rfl rfl (hL).1 rfl (by decide) (Nat.le_of_ble_eq_true rfl) ?_
    refine ce_if_eqB (tgt := 20) dX0_knowsBoth_13 (by decide) rfl (fun c_13 => ?_) (fun c_13 => ?_)
    · refine ce_iconst (v := nI (0)) dX0_knowsBoth_20 (by decide) ?_
      refine ce_iret dX0_knowsBoth_21 rfl (by first | rfl | decide | assumption) (by decide) (by decide) ?_
      exact ⟨congrArg (fun z => some (Value.int z)) ((if_neg (fun e => c_13 e.2)).symm), rfl, rfl⟩
    · refine ce_iconst (v := nI (1)) dX0_knowsBoth_16 (by decide) ?_
      refine ce_goto (tgt := 21) dX0_knowsBoth_17 (by decide) ?_
      refine ce_iret dX0_knowsBoth_21 rfl (by first | rfl | decide | assumption) (by decide) (by decide) ?_
      exact ⟨congrArg (fun z => some (Value.int z)) ((if_pos ⟨c_5, c_13⟩).symm), rfl, rfl⟩
set_option maxHeartbeats 2000000 in
set_option maxRecDepth 20000 in
theorem m_X0_factOfAll0 {σ : ce_S} {g : ce_D} (c : Nat) (K : ce_V) (O : Nat → Int32) (hL : ce_LC σ c) (hr : ce_rC g c K O) (hk : kv_cl K) : ce_CT (ce_r 2) mX0_factOfAll [.ref (c), .int (nI (0))] σ g (ce_pv (nI (K 0 0)) σ g) ce_no := by
  have hB := hk.i7
  have hM := hk.me
  have hW := hk.wi
  refine ce_enter (by decide) rfl (Nat.le_of_ble_eq_true rfl) (L := [some (.ref (c)), some (.int (nI (0)))]) rfl ?_
  refine ce_iload_n dX0_factOfAll_0 rfl ?_
  refine ce_tableIn (off := 51) (tgt := 52) dX0_factOfAll_1 (by decide) (by decide) (by decide) (by decide) ?_
  refine ce_aload_n dX0_factOfAll_52 rfl ?_
  refine ce_getIv dX0_factOfAll_53 fRX0_56 (hL).1 (hr).1 ?_
  refine ce_iret dX0_factOfAll_56 rfl rfl (by decide) (by decide) ?_
  exact ⟨rfl, rfl, rfl⟩
set_option maxHeartbeats 2000000 in
set_option maxRecDepth 20000 in
theorem m_X0_factOfAll1 {σ : ce_S} {g : ce_D} (c : Nat) (K : ce_V) (O : Nat → Int32) (hL : ce_LC σ c) (hr : ce_rC g c K O) (hk : kv_cl K) : ce_CT (ce_r 2) mX0_factOfAll [.ref (c), .int (nI (1))] σ g (ce_pv (nI (K 0 1)) σ g) ce_no := by
  have hB := hk.i7
  have hM := hk.me
  have hW := hk.wi
  refine ce_enter (by decide) rfl (Nat.le_of_ble_eq_true rfl) (L := [some (.ref (c)), some (.int (nI (1)))]) rfl ?_
  refine ce_iload_n dX0_factOfAll_0 rfl ?_
  refine ce_tableIn (off := 56) (tgt := 57) dX0_factOfAll_1 (by decide) (by decide) (by decide) (by decide) ?_
  refine ce_aload_n dX0_factOfAll_57 rfl ?_
  refine ce_getIv dX0_factOfAll_58 fRX0_60 (hL).1 (hr).2.1 ?_
  refine ce_iret dX0_factOfAll_61 rfl rfl (by decide) (by decide) ?_
  exact ⟨rfl, rfl, rfl⟩
set_option maxHeartbeats 2000000 in
set_option maxRecDepth 20000 in
theorem m_X0_factOfAll2 {σ : ce_S} {g : ce_D} (c : Nat) (K : ce_V) (O : Nat → Int32) (hL : ce_LC σ c) (hr : ce_rC g c K O) (hk : kv_cl K) : ce_CT (ce_r 2) mX0_factOfAll [.ref (c), .int (nI (2))] σ g (ce_pv (nI (K 0 2)) σ g) ce_no := by
  have hB := hk.i7
  have hM := hk.me
  have hW := hk.wi
  refine ce_enter (by decide) rfl (Nat.le_of_ble_eq_true rfl) (L := [some (.ref (c)), some (.int (nI (2)))]) rfl ?_
  refine ce_iload_n dX0_factOfAll_0 rfl ?_
  refine ce_tableIn (off := 61) (tgt := 62) dX0_factOfAll_1 (by decide) (by decide) (by decide) (by decide) ?_
  refine ce_aload_n dX0_factOfAll_62 rfl ?_
  refine ce_getR dX0_factOfAll_63 fRX0_52 (hL).1 (hL).2.2.1.2.2.2.2 ?_
  refine ce_getIv dX0_factOfAll_66 fRX0_70 ((hL).2.2.2.2.2).1 ((hr).k.1) ?_
  refine ce_iret dX0_factOfAll_69 rfl rfl (by decide) (by decide) ?_
  exact ⟨rfl, rfl, rfl⟩
set_option maxHeartbeats 2000000 in
set_option maxRecDepth 20000 in
theorem m_X0_factOfAll3 {σ : ce_S} {g : ce_D} (c : Nat) (K : ce_V) (O : Nat → Int32) (hL : ce_LC σ c) (hr : ce_rC g c K O) (hk : kv_cl K) : ce_CT (ce_r 2) mX0_factOfAll [.ref (c), .int (nI (3))] σ g (ce_pv (nI (ce_sum (K 9) 36)) σ g) ce_no := by
  have hB := hk.i7
  have hM := hk.me
  have hW := hk.wi
  refine ce_enter (by decide) rfl (Nat.le_of_ble_eq_true rfl) (L := [some (.ref (c)), some (.int (nI (3)))]) rfl ?_
  refine ce_iload_n dX0_factOfAll_0 rfl ?_
  refine ce_tableIn (off := 69) (tgt := 70) dX0_factOfAll_1 (by decide) (by decide) (by decide) (by decide) ?_
  refine ce_aload_n dX0_factOfAll_70 rfl ?_
  refine ce_getR dX0_factOfAll_71 fRX0_43 (hL).1 (hL).2.2.1.2.2.1 ?_
  refine ce_cVp dX0_factOfAll_74 hX5_ofAll kRX0_73 (n_X5_ofAll (hL).2.2.2.2.1.2.2.1 (K 9) (fun j hj => (hr).t 9 (by decide) hj)) rfl rfl ((hL).2.2.2.2.1.2.2.1).1 rfl (by decide) (Nat.le_of_ble_eq_true rfl) ?_
  refine ce_iret dX0_factOfAll_77 rfl rfl (by decide) (by decide) ?_
  exact ⟨rfl, rfl, rfl⟩
set_option maxHeartbeats 2000000 in
set_option maxRecDepth 20000 in
theorem m_X0_factOfAll4 {σ : ce_S} {g : ce_D} (c : Nat) (K : ce_V) (O : Nat → Int32) (hL : ce_LC σ c) (hr : ce_rC g c K O) (hk : kv_cl K) : ce_CT (ce_r 2) mX0_factOfAll [.ref (c), .int (nI (4))] σ g (ce_pv (nI (ce_sum (K 10) 36)) σ g) ce_no := by
  have hB := hk.i7
  have hM := hk.me
  have hW := hk.wi
  refine ce_enter (by decide) rfl (Nat.le_of_ble_eq_true rfl) (L := [some (.ref (c)), some (.int (nI (4)))]) rfl ?_
  refine ce_iload_n dX0_factOfAll_0 rfl ?_
  refine ce_tableIn (off := 77) (tgt := 78) dX0_factOfAll_1 (by decide) (by decide) (by decide) (by decide) ?_
  refine ce_aload_n dX0_factOfAll_78 rfl ?_
  refine ce_getR dX0_factOfAll_79 fRX0_46 (hL).1 (hL).2.2.1.2.2.2.1 ?_
  refine ce_cVp dX0_factOfAll_82 hX5_ofAll kRX0_73 (n_X5_ofAll (hL).2.2.2.2.1.2.2.2 (K 10) (fun j hj => (hr).t 10 (by decide) hj)) rfl rfl ((hL).2.2.2.2.1.2.2.2).1 rfl (by decide) (Nat.le_of_ble_eq_true rfl) ?_
  refine ce_iret dX0_factOfAll_85 rfl rfl (by decide) (by decide) ?_
  exact ⟨rfl, rfl, rfl⟩
set_option maxHeartbeats 2000000 in
set_option maxRecDepth 20000 in
theorem m_X0_factOfAll5 {σ : ce_S} {g : ce_D} (c : Nat) (K : ce_V) (O : Nat → Int32) (hL : ce_LC σ c) (hr : ce_rC g c K O) (hk : kv_cl K) : ce_CT (ce_r 2) mX0_factOfAll [.ref (c), .int (nI (5))] σ g (ce_pv (nI (ce_sum (K 6) 6)) σ g) ce_no := by
  have hB := hk.i7
  have hM := hk.me
  have hW := hk.wi
  refine ce_enter (by decide) rfl (Nat.le_of_ble_eq_true rfl) (L := [some (.ref (c)), some (.int (nI (5)))]) rfl ?_
  refine ce_iload_n dX0_factOfAll_0 rfl ?_
  refine ce_tableIn (off := 85) (tgt := 86) dX0_factOfAll_1 (by decide) (by decide) (by decide) (by decide) ?_
  refine ce_aload_n dX0_factOfAll_86 rfl ?_
  refine ce_getR dX0_factOfAll_87 fRX0_30 (hL).1 (hL).2.1.2.2.2.2.2.2 ?_
  refine ce_cSNp dX0_factOfAll_90 hX7_sumOf kRX0_77 (n_X7_sumOf ⟨((hL).2.2.2.1.2.2.2.2.2.2).1, ((hL).2.2.2.1.2.2.2.2.2.2).2⟩ (by decide) (K 6) (fun j hj => (hr).r 6 (by decide) hj)) rfl rfl (by decide) (Nat.le_of_ble_eq_true rfl) ?_
  refine ce_iret dX0_factOfAll_93 rfl rfl (by decide) (by decide) ?_
  exact ⟨rfl, rfl, rfl⟩
set_option maxHeartbeats 2000000 in
set_option maxRecDepth 20000 in
theorem m_X0_factOfAll6 {σ : ce_S} {g : ce_D} (c : Nat) (K : ce_V) (O : Nat → Int32) (hL : ce_LC σ c) (hr : ce_rC g c K O) (hk : kv_cl K) : ce_CT (ce_r 2) mX0_factOfAll [.ref (c), .int (nI (6))] σ g (ce_pv (nI (ce_sum (K 4) 6)) σ g) ce_no := by
  have hB := hk.i7
  have hM := hk.me
  have hW := hk.wi
  refine ce_enter (by decide) rfl (Nat.le_of_ble_eq_true rfl) (L := [some (.ref (c)), some (.int (nI (6)))]) rfl ?_
  refine ce_iload_n dX0_factOfAll_0 rfl ?_
  refine ce_tableIn (off := 93) (tgt := 94) dX0_factOfAll_1 (by decide) (by decide) (by decide) (by decide) ?_
  refine ce_aload_n dX0_factOfAll_94 rfl ?_
  refine ce_getR dX0_factOfAll_95 fRX0_24 (hL).1 (hL).2.1.2.2.2.2.1 ?_
  refine ce_cSNp dX0_factOfAll_98 hX7_sumOf kRX0_77 (n_X7_sumOf ⟨((hL).2.2.2.1.2.2.2.2.1).1, ((hL).2.2.2.1.2.2.2.2.1).2⟩ (by decide) (K 4) (fun j hj => (hr).r 4 (by decide) hj)) rfl rfl (by decide) (Nat.le_of_ble_eq_true rfl) ?_
  refine ce_iret dX0_factOfAll_101 rfl rfl (by decide) (by decide) ?_
  exact ⟨rfl, rfl, rfl⟩
set_option maxHeartbeats 2000000 in
set_option maxRecDepth 20000 in
theorem m_X0_factOfAll7 {σ : ce_S} {g : ce_D} (c : Nat) (K : ce_V) (O : Nat → Int32) (hL : ce_LC σ c) (hr : ce_rC g c K O) (hk : kv_cl K) : ce_CT (ce_r 2) mX0_factOfAll [.ref (c), .int (nI (7))] σ g (ce_pv (ce_isum O 6) σ g) ce_no := by
  have hB := hk.i7
  have hM := hk.me
  have hW := hk.wi
  refine ce_enter (by decide) rfl (Nat.le_of_ble_eq_true rfl) (L := [some (.ref (c)), some (.int (nI (7)))]) rfl ?_
  refine ce_iload_n dX0_factOfAll_0 rfl ?_
  refine ce_tableIn (off := 101) (tgt := 102) dX0_factOfAll_1 (by decide) (by decide) (by decide) (by decide) ?_
  refine ce_aload_n dX0_factOfAll_102 rfl ?_
  refine ce_getR dX0_factOfAll_103 fRX0_15 (hL).1 (hL).2.1.2.1 ?_
  refine ce_cSNp dX0_factOfAll_106 hX7_sumOf kRX0_77 (o_X7_sumOf ⟨((hL).2.2.2.1.2.1).1, ((hL).2.2.2.1.2.1).2⟩ (by decide) O (fun j hj => (hr).o hj)) rfl rfl (by decide) (Nat.le_of_ble_eq_true rfl) ?_
  refine ce_iret dX0_factOfAll_109 rfl rfl (by decide) (by decide) ?_
  exact ⟨rfl, rfl, rfl⟩
set_option maxHeartbeats 2000000 in
set_option maxRecDepth 20000 in
theorem m_X0_factOfAll8 {σ : ce_S} {g : ce_D} (c : Nat) (K : ce_V) (O : Nat → Int32) (hL : ce_LC σ c) (hr : ce_rC g c K O) (hk : kv_cl K) : ce_CT (ce_r 2) mX0_factOfAll [.ref (c), .int (nI (8))] σ g (ce_pv (nI (kv_emp K (K 0 2))) σ g) ce_no := by
  have hB := hk.i7
  have hM := hk.me
  have hW := hk.wi
  refine ce_enter (by decide) rfl (Nat.le_of_ble_eq_true rfl) (L := [some (.ref (c)), some (.int (nI (8)))]) rfl ?_
  refine ce_iload_n dX0_factOfAll_0 rfl ?_
  refine ce_tableIn (off := 109) (tgt := 110) dX0_factOfAll_1 (by decide) (by decide) (by decide) (by decide) ?_
  refine ce_aload_n dX0_factOfAll_110 rfl ?_
  refine ce_getR dX0_factOfAll_111 fRX0_52 (hL).1 (hL).2.2.1.2.2.2.2 ?_
  refine ce_cVp dX0_factOfAll_114 hX3_emptyBins kRX0_81 (m_X3_emptyBins _ K (hL).2.2.2.2.2 (hr).k hk.rk) rfl rfl ((hL).2.2.2.2.2).1 rfl (by decide) (Nat.le_of_ble_eq_true rfl) ?_
  refine ce_iret dX0_factOfAll_117 rfl rfl (by decide) (by decide) ?_
  exact ⟨rfl, rfl, rfl⟩
set_option maxHeartbeats 2000000 in
set_option maxRecDepth 20000 in
theorem m_X0_factOfAll9 {σ : ce_S} {g : ce_D} (c : Nat) (K : ce_V) (O : Nat → Int32) (hL : ce_LC σ c) (hr : ce_rC g c K O) (hk : kv_cl K) : ce_CT (ce_r 2) mX0_factOfAll [.ref (c), .int (nI (9))] σ g (ce_pv (nI (ce_sum (fun b => K 11 b - K 12 b) (K 0 2))) σ g) ce_no := by
  have hB := hk.i7
  have hM := hk.me
  have hW := hk.wi
  refine ce_enter (by decide) rfl (Nat.le_of_ble_eq_true rfl) (L := [some (.ref (c)), some (.int (nI (9)))]) rfl ?_
  refine ce_iload_n dX0_factOfAll_0 rfl ?_
  refine ce_tableOut (tgt := 118) dX0_factOfAll_1 (by decide) (by decide) ?_
  refine ce_aload_n dX0_factOfAll_118 rfl ?_
  refine ce_getR dX0_factOfAll_119 fRX0_52 (hL).1 (hL).2.2.1.2.2.2.2 ?_
  refine ce_cVp dX0_factOfAll_122 hX3_roomInAll kRX0_84 (m_X3_roomInAll _ K (hL).2.2.2.2.2 (hr).k hk.rk) rfl rfl ((hL).2.2.2.2.2).1 rfl (by decide) (Nat.le_of_ble_eq_true rfl) ?_
  refine ce_iret dX0_factOfAll_125 rfl rfl (by decide) (by decide) ?_
  exact ⟨rfl, rfl, rfl⟩
set_option maxHeartbeats 2000000 in
set_option maxRecDepth 20000 in
theorem m_X0_factOfMember0 {σ : ce_S} {g : ce_D} (c : Nat) (K : ce_V) (O : Nat → Int32) (hL : ce_LC σ c) (hr : ce_rC g c K O) (hk : kv_cl K) (m : Nat) (hm : m < 6) : ce_CT (ce_r 2) mX0_factOfMember [.ref (c), .int (nI (m)), .int (nI (0))] σ g (ce_pv (nI (K 1 m)) σ g) ce_no := by
  have hB := hk.i7
  have hM := hk.me
  have hW := hk.wi
  refine ce_enter (by decide) rfl (Nat.le_of_ble_eq_true rfl) (L := [some (.ref (c)), some (.int (nI (m))), some (.int (nI (0)))]) rfl ?_
  refine ce_iload_n dX0_factOfMember_0 rfl ?_
  refine ce_tableIn (off := 27) (tgt := 28) dX0_factOfMember_1 (by decide) (by decide) (by decide) (by decide) ?_
  refine ce_aload_n dX0_factOfMember_28 rfl ?_
  refine ce_getR dX0_factOfMember_29 fRX0_9 (hL).1 (hL).2.1.1 ?_
  refine ce_iload_n dX0_factOfMember_32 rfl ?_
  refine ce_ialdv dX0_factOfMember_33 ((hL).2.2.2.1.1).1 rfl ((hL).2.2.2.1.1).2 (by omega) (by decide) ((hr).r 1 (by decide) (by omega)) ?_
  refine ce_iret dX0_factOfMember_34 rfl rfl (by decide) (by decide) ?_
  exact ⟨rfl, rfl, rfl⟩
set_option maxHeartbeats 2000000 in
set_option maxRecDepth 20000 in
theorem m_X0_factOfMember1 {σ : ce_S} {g : ce_D} (c : Nat) (K : ce_V) (O : Nat → Int32) (hL : ce_LC σ c) (hr : ce_rC g c K O) (hk : kv_cl K) (m : Nat) (hm : m < 6) : ce_CT (ce_r 2) mX0_factOfMember [.ref (c), .int (nI (m)), .int (nI (1))] σ g (ce_pv (O m) σ g) ce_no := by
  have hB := hk.i7
  have hM := hk.me
  have hW := hk.wi
  refine ce_enter (by decide) rfl (Nat.le_of_ble_eq_true rfl) (L := [some (.ref (c)), some (.int (nI (m))), some (.int (nI (1)))]) rfl ?_
  refine ce_iload_n dX0_factOfMember_0 rfl ?_
  refine ce_tableIn (off := 34) (tgt := 35) dX0_factOfMember_1 (by decide) (by decide) (by decide) (by decide) ?_
  refine ce_aload_n dX0_factOfMember_35 rfl ?_
  refine ce_getR dX0_factOfMember_36 fRX0_15 (hL).1 (hL).2.1.2.1 ?_
  refine ce_iload_n dX0_factOfMember_39 rfl ?_
  refine ce_ialdv dX0_factOfMember_40 ((hL).2.2.2.1.2.1).1 rfl ((hL).2.2.2.1.2.1).2 (by omega) (by decide) ((hr).o (by omega)) ?_
  refine ce_iret dX0_factOfMember_41 rfl rfl (by decide) (by decide) ?_
  exact ⟨rfl, rfl, rfl⟩
set_option maxHeartbeats 2000000 in
set_option maxRecDepth 20000 in
theorem m_X0_factOfMember2 {σ : ce_S} {g : ce_D} (c : Nat) (K : ce_V) (O : Nat → Int32) (hL : ce_LC σ c) (hr : ce_rC g c K O) (hk : kv_cl K) (m : Nat) (hm : m < 6) : ce_CT (ce_r 2) mX0_factOfMember [.ref (c), .int (nI (m)), .int (nI (2))] σ g (ce_pv (nI (ce_sum (fun w => K 9 (m * 6 + w)) 6)) σ g) ce_no := by
  have hB := hk.i7
  have hM := hk.me
  have hW := hk.wi
  refine ce_enter (by decide) rfl (Nat.le_of_ble_eq_true rfl) (L := [some (.ref (c)), some (.int (nI (m))), some (.int (nI (2)))]) rfl ?_
  refine ce_iload_n dX0_factOfMember_0 rfl ?_
  refine ce_tableIn (off := 41) (tgt := 42) dX0_factOfMember_1 (by decide) (by decide) (by decide) (by decide) ?_
  refine ce_aload_n dX0_factOfMember_42 rfl ?_
  refine ce_getR dX0_factOfMember_43 fRX0_43 (hL).1 (hL).2.2.1.2.2.1 ?_
  refine ce_iload_n dX0_factOfMember_46 rfl ?_
  refine ce_cVp dX0_factOfMember_47 hX5_ofMember kRX0_87 (n_X5_ofMember (hL).2.2.2.2.1.2.2.1 (m := m) (by omega) (fun w => K 9 (m * 6 + w)) (fun w hw => (hr).t 9 (by decide) (by omega))) rfl rfl ((hL).2.2.2.2.1.2.2.1).1 rfl (by decide) (Nat.le_of_ble_eq_true rfl) ?_
  refine ce_iret dX0_factOfMember_50 rfl rfl (by decide) (by decide) ?_
  exact ⟨rfl, rfl, rfl⟩
set_option maxHeartbeats 2000000 in
set_option maxRecDepth 20000 in
theorem m_X0_factOfMember3 {σ : ce_S} {g : ce_D} (c : Nat) (K : ce_V) (O : Nat → Int32) (hL : ce_LC σ c) (hr : ce_rC g c K O) (hk : kv_cl K) (m : Nat) (hm : m < 6) : ce_CT (ce_r 2) mX0_factOfMember [.ref (c), .int (nI (m)), .int (nI (3))] σ g (ce_pv (nI (ce_sum (fun w => K 10 (m * 6 + w)) 6)) σ g) ce_no := by
  have hB := hk.i7
  have hM := hk.me
  have hW := hk.wi
  refine ce_enter (by decide) rfl (Nat.le_of_ble_eq_true rfl) (L := [some (.ref (c)), some (.int (nI (m))), some (.int (nI (3)))]) rfl ?_
  refine ce_iload_n dX0_factOfMember_0 rfl ?_
  refine ce_tableOut (tgt := 51) dX0_factOfMember_1 (by decide) (by decide) ?_
  refine ce_aload_n dX0_factOfMember_51 rfl ?_
  refine ce_getR dX0_factOfMember_52 fRX0_46 (hL).1 (hL).2.2.1.2.2.2.1 ?_
  refine ce_iload_n dX0_factOfMember_55 rfl ?_
  refine ce_cVp dX0_factOfMember_56 hX5_ofMember kRX0_87 (n_X5_ofMember (hL).2.2.2.2.1.2.2.2 (m := m) (by omega) (fun w => K 10 (m * 6 + w)) (fun w hw => (hr).t 10 (by decide) (by omega))) rfl rfl ((hL).2.2.2.2.1.2.2.2).1 rfl (by decide) (Nat.le_of_ble_eq_true rfl) ?_
  refine ce_iret dX0_factOfMember_59 rfl rfl (by decide) (by decide) ?_
  exact ⟨rfl, rfl, rfl⟩
set_option maxHeartbeats 2000000 in
set_option maxRecDepth 20000 in
theorem m_X0_factOfWine0 {σ : ce_S} {g : ce_D} (c : Nat) (K : ce_V) (O : Nat → Int32) (hL : ce_LC σ c) (hr : ce_rC g c K O) (hk : kv_cl K) (w : Nat) (hw : w < 6) : ce_CT (ce_r 2) mX0_factOfWine [.ref (c), .int (nI (w)), .int (nI (0))] σ g (ce_pv (nI (K 2 w)) σ g) ce_no := by
  have hB := hk.i7
  have hM := hk.me
  have hW := hk.wi
  refine ce_enter (by decide) rfl (Nat.le_of_ble_eq_true rfl) (L := [some (.ref (c)), some (.int (nI (w))), some (.int (nI (0)))]) rfl ?_
  refine ce_iload_n dX0_factOfWine_0 rfl ?_
  refine ce_tableIn (off := 47) (tgt := 48) dX0_factOfWine_1 (by decide) (by decide) (by decide) (by decide) ?_
  refine ce_aload_n dX0_factOfWine_48 rfl ?_
  refine ce_getR dX0_factOfWine_49 fRX0_18 (hL).1 (hL).2.1.2.2.1 ?_
  refine ce_iload_n dX0_factOfWine_52 rfl ?_
  refine ce_ialdv dX0_factOfWine_53 ((hL).2.2.2.1.2.2.1).1 rfl ((hL).2.2.2.1.2.2.1).2 (by omega) (by decide) ((hr).r 2 (by decide) (by omega)) ?_
  refine ce_iret dX0_factOfWine_54 rfl rfl (by decide) (by decide) ?_
  exact ⟨rfl, rfl, rfl⟩
set_option maxHeartbeats 2000000 in
set_option maxRecDepth 20000 in
theorem m_X0_factOfWine1 {σ : ce_S} {g : ce_D} (c : Nat) (K : ce_V) (O : Nat → Int32) (hL : ce_LC σ c) (hr : ce_rC g c K O) (hk : kv_cl K) (w : Nat) (hw : w < 6) : ce_CT (ce_r 2) mX0_factOfWine [.ref (c), .int (nI (w)), .int (nI (1))] σ g (ce_pv (nI (K 3 w)) σ g) ce_no := by
  have hB := hk.i7
  have hM := hk.me
  have hW := hk.wi
  refine ce_enter (by decide) rfl (Nat.le_of_ble_eq_true rfl) (L := [some (.ref (c)), some (.int (nI (w))), some (.int (nI (1)))]) rfl ?_
  refine ce_iload_n dX0_factOfWine_0 rfl ?_
  refine ce_tableIn (off := 54) (tgt := 55) dX0_factOfWine_1 (by decide) (by decide) (by decide) (by decide) ?_
  refine ce_aload_n dX0_factOfWine_55 rfl ?_
  refine ce_getR dX0_factOfWine_56 fRX0_21 (hL).1 (hL).2.1.2.2.2.1 ?_
  refine ce_iload_n dX0_factOfWine_59 rfl ?_
  refine ce_ialdv dX0_factOfWine_60 ((hL).2.2.2.1.2.2.2.1).1 rfl ((hL).2.2.2.1.2.2.2.1).2 (by omega) (by decide) ((hr).r 3 (by decide) (by omega)) ?_
  refine ce_iret dX0_factOfWine_61 rfl rfl (by decide) (by decide) ?_
  exact ⟨rfl, rfl, rfl⟩
set_option maxHeartbeats 2000000 in
set_option maxRecDepth 20000 in
theorem m_X0_factOfWine2 {σ : ce_S} {g : ce_D} (c : Nat) (K : ce_V) (O : Nat → Int32) (hL : ce_LC σ c) (hr : ce_rC g c K O) (hk : kv_cl K) (w : Nat) (hw : w < 6) : ce_CT (ce_r 2) mX0_factOfWine [.ref (c), .int (nI (w)), .int (nI (2))] σ g (ce_pv (nI (K 4 w)) σ g) ce_no := by
  have hB := hk.i7
  have hM := hk.me
  have hW := hk.wi
  refine ce_enter (by decide) rfl (Nat.le_of_ble_eq_true rfl) (L := [some (.ref (c)), some (.int (nI (w))), some (.int (nI (2)))]) rfl ?_
  refine ce_iload_n dX0_factOfWine_0 rfl ?_
  refine ce_tableIn (off := 61) (tgt := 62) dX0_factOfWine_1 (by decide) (by decide) (by decide) (by decide) ?_
  refine ce_aload_n dX0_factOfWine_62 rfl ?_
  refine ce_getR dX0_factOfWine_63 fRX0_24 (hL).1 (hL).2.1.2.2.2.2.1 ?_
  refine ce_iload_n dX0_factOfWine_66 rfl ?_
  refine ce_ialdv dX0_factOfWine_67 ((hL).2.2.2.1.2.2.2.2.1).1 rfl ((hL).2.2.2.1.2.2.2.2.1).2 (by omega) (by decide) ((hr).r 4 (by decide) (by omega)) ?_
  refine ce_iret dX0_factOfWine_68 rfl rfl (by decide) (by decide) ?_
  exact ⟨rfl, rfl, rfl⟩
set_option maxHeartbeats 2000000 in
set_option maxRecDepth 20000 in
theorem m_X0_factOfWine3 {σ : ce_S} {g : ce_D} (c : Nat) (K : ce_V) (O : Nat → Int32) (hL : ce_LC σ c) (hr : ce_rC g c K O) (hk : kv_cl K) (w : Nat) (hw : w < 6) : ce_CT (ce_r 2) mX0_factOfWine [.ref (c), .int (nI (w)), .int (nI (3))] σ g (ce_pv (nI (K 5 w)) σ g) ce_no := by
  have hB := hk.i7
  have hM := hk.me
  have hW := hk.wi
  refine ce_enter (by decide) rfl (Nat.le_of_ble_eq_true rfl) (L := [some (.ref (c)), some (.int (nI (w))), some (.int (nI (3)))]) rfl ?_
  refine ce_iload_n dX0_factOfWine_0 rfl ?_
  refine ce_tableIn (off := 68) (tgt := 69) dX0_factOfWine_1 (by decide) (by decide) (by decide) (by decide) ?_
  refine ce_aload_n dX0_factOfWine_69 rfl ?_
  refine ce_getR dX0_factOfWine_70 fRX0_27 (hL).1 (hL).2.1.2.2.2.2.2.1 ?_
  refine ce_iload_n dX0_factOfWine_73 rfl ?_
  refine ce_ialdv dX0_factOfWine_74 ((hL).2.2.2.1.2.2.2.2.2.1).1 rfl ((hL).2.2.2.1.2.2.2.2.2.1).2 (by omega) (by decide) ((hr).r 5 (by decide) (by omega)) ?_
  refine ce_iret dX0_factOfWine_75 rfl rfl (by decide) (by decide) ?_
  exact ⟨rfl, rfl, rfl⟩
set_option maxHeartbeats 2000000 in
set_option maxRecDepth 20000 in
theorem m_X0_factOfWine4 {σ : ce_S} {g : ce_D} (c : Nat) (K : ce_V) (O : Nat → Int32) (hL : ce_LC σ c) (hr : ce_rC g c K O) (hk : kv_cl K) (w : Nat) (hw : w < 6) : ce_CT (ce_r 2) mX0_factOfWine [.ref (c), .int (nI (w)), .int (nI (4))] σ g (ce_pv (nI (kv_sum K 9 w)) σ g) ce_no := by
  have hB := hk.i7
  have hM := hk.me
  have hW := hk.wi
  refine ce_enter (by decide) rfl (Nat.le_of_ble_eq_true rfl) (L := [some (.ref (c)), some (.int (nI (w))), some (.int (nI (4)))]) rfl ?_
  refine ce_iload_n dX0_factOfWine_0 rfl ?_
  refine ce_tableIn (off := 75) (tgt := 76) dX0_factOfWine_1 (by decide) (by decide) (by decide) (by decide) ?_
  refine ce_aload_n dX0_factOfWine_76 rfl ?_
  refine ce_getR dX0_factOfWine_77 fRX0_43 (hL).1 (hL).2.2.1.2.2.1 ?_
  refine ce_iload_n dX0_factOfWine_80 rfl ?_
  refine ce_cVp dX0_factOfWine_81 hX5_ofWine kRX0_91 (n_X5_ofWine (hL).2.2.2.2.1.2.2.1 (w := w) (by omega) (fun m => K 9 (m * 6 + w)) (fun m hm => (hr).t 9 (by decide) (by omega)) (kv_sum K 9 (w)) rfl) rfl rfl ((hL).2.2.2.2.1.2.2.1).1 rfl (by decide) (Nat.le_of_ble_eq_true rfl) ?_
  refine ce_iret dX0_factOfWine_84 rfl rfl (by decide) (by decide) ?_
  exact ⟨rfl, rfl, rfl⟩
set_option maxHeartbeats 2000000 in
set_option maxRecDepth 20000 in
theorem m_X0_factOfWine5 {σ : ce_S} {g : ce_D} (c : Nat) (K : ce_V) (O : Nat → Int32) (hL : ce_LC σ c) (hr : ce_rC g c K O) (hk : kv_cl K) (w : Nat) (hw : w < 6) : ce_CT (ce_r 2) mX0_factOfWine [.ref (c), .int (nI (w)), .int (nI (5))] σ g (ce_pv (nI (kv_sum K 10 w)) σ g) ce_no := by
  have hB := hk.i7
  have hM := hk.me
  have hW := hk.wi
  refine ce_enter (by decide) rfl (Nat.le_of_ble_eq_true rfl) (L := [some (.ref (c)), some (.int (nI (w))), some (.int (nI (5)))]) rfl ?_
  refine ce_iload_n dX0_factOfWine_0 rfl ?_
  refine ce_tableIn (off := 84) (tgt := 85) dX0_factOfWine_1 (by decide) (by decide) (by decide) (by decide) ?_
  refine ce_aload_n dX0_factOfWine_85 rfl ?_
  refine ce_getR dX0_factOfWine_86 fRX0_46 (hL).1 (hL).2.2.1.2.2.2.1 ?_
  refine ce_iload_n dX0_factOfWine_89 rfl ?_
  refine ce_cVp dX0_factOfWine_90 hX5_ofWine kRX0_91 (n_X5_ofWine (hL).2.2.2.2.1.2.2.2 (w := w) (by omega) (fun m => K 10 (m * 6 + w)) (fun m hm => (hr).t 10 (by decide) (by omega)) (kv_sum K 10 (w)) rfl) rfl rfl ((hL).2.2.2.2.1.2.2.2).1 rfl (by decide) (Nat.le_of_ble_eq_true rfl) ?_
  refine ce_iret dX0_factOfWine_93 rfl rfl (by decide) (by decide) ?_
  exact ⟨rfl, rfl, rfl⟩
set_option maxHeartbeats 2000000 in
set_option maxRecDepth 20000 in
theorem m_X0_factOfWine6 {σ : ce_S} {g : ce_D} (c : Nat) (K : ce_V) (O : Nat → Int32) (hL : ce_LC σ c) (hr : ce_rC g c K O) (hk : kv_cl K) (w : Nat) (hw : w < 6) : ce_CT (ce_r 2) mX0_factOfWine [.ref (c), .int (nI (w)), .int (nI (6))] σ g (ce_pv (nI (K 6 w)) σ g) ce_no := by
  have hB := hk.i7
  have hM := hk.me
  have hW := hk.wi
  refine ce_enter (by decide) rfl (Nat.le_of_ble_eq_true rfl) (L := [some (.ref (c)), some (.int (nI (w))), some (.int (nI (6)))]) rfl ?_
  refine ce_iload_n dX0_factOfWine_0 rfl ?_
  refine ce_tableIn (off := 93) (tgt := 94) dX0_factOfWine_1 (by decide) (by decide) (by decide) (by decide) ?_
  refine ce_aload_n dX0_factOfWine_94 rfl ?_
  refine ce_getR dX0_factOfWine_95 fRX0_30 (hL).1 (hL).2.1.2.2.2.2.2.2 ?_
  refine ce_iload_n dX0_factOfWine_98 rfl ?_
  refine ce_ialdv dX0_factOfWine_99 ((hL).2.2.2.1.2.2.2.2.2.2).1 rfl ((hL).2.2.2.1.2.2.2.2.2.2).2 (by omega) (by decide) ((hr).r 6 (by decide) (by omega)) ?_
  refine ce_iret dX0_factOfWine_100 rfl rfl (by decide) (by decide) ?_
  exact ⟨rfl, rfl, rfl⟩
set_option maxHeartbeats 2000000 in
set_option maxRecDepth 20000 in
theorem m_X0_factOfWine7 {σ : ce_S} {g : ce_D} (c : Nat) (K : ce_V) (O : Nat → Int32) (hL : ce_LC σ c) (hr : ce_rC g c K O) (hk : kv_cl K) (w : Nat) (hw : w < 6) : ce_CT (ce_r 2) mX0_factOfWine [.ref (c), .int (nI (w)), .int (nI (7))] σ g (ce_pv (nI (kv_sum K 8 w)) σ g) ce_no := by
  have hB := hk.i7
  have hM := hk.me
  have hW := hk.wi
  refine ce_enter (by decide) rfl (Nat.le_of_ble_eq_true rfl) (L := [some (.ref (c)), some (.int (nI (w))), some (.int (nI (7)))]) rfl ?_
  refine ce_iload_n dX0_factOfWine_0 rfl ?_
  refine ce_tableIn (off := 100) (tgt := 101) dX0_factOfWine_1 (by decide) (by decide) (by decide) (by decide) ?_
  refine ce_aload_n dX0_factOfWine_101 rfl ?_
  refine ce_getR dX0_factOfWine_102 fRX0_40 (hL).1 (hL).2.2.1.2.1 ?_
  refine ce_iload_n dX0_factOfWine_105 rfl ?_
  refine ce_cVp dX0_factOfWine_106 hX5_ofWine kRX0_91 (n_X5_ofWine (hL).2.2.2.2.1.2.1 (w := w) (by omega) (fun m => K 8 (m * 6 + w)) (fun m hm => (hr).t 8 (by decide) (by omega)) (kv_sum K 8 (w)) rfl) rfl rfl ((hL).2.2.2.2.1.2.1).1 rfl (by decide) (Nat.le_of_ble_eq_true rfl) ?_
  refine ce_iret dX0_factOfWine_109 rfl rfl (by decide) (by decide) ?_
  exact ⟨rfl, rfl, rfl⟩
set_option maxHeartbeats 2000000 in
set_option maxRecDepth 20000 in
theorem m_X0_factOfWine8 {σ : ce_S} {g : ce_D} (c : Nat) (K : ce_V) (O : Nat → Int32) (hL : ce_LC σ c) (hr : ce_rC g c K O) (hk : kv_cl K) (w : Nat) (hw : w < 6) : ce_CT (ce_r 2) mX0_factOfWine [.ref (c), .int (nI (w)), .int (nI (8))] σ g (ce_pv (nI (kv_sum K 7 w)) σ g) ce_no := by
  have hB := hk.i7
  have hM := hk.me
  have hW := hk.wi
  refine ce_enter (by decide) rfl (Nat.le_of_ble_eq_true rfl) (L := [some (.ref (c)), some (.int (nI (w))), some (.int (nI (8)))]) rfl ?_
  refine ce_iload_n dX0_factOfWine_0 rfl ?_
  refine ce_tableOut (tgt := 110) dX0_factOfWine_1 (by decide) (by decide) ?_
  refine ce_aload_n dX0_factOfWine_110 rfl ?_
  refine ce_getR dX0_factOfWine_111 fRX0_36 (hL).1 (hL).2.2.1.1 ?_
  refine ce_iload_n dX0_factOfWine_114 rfl ?_
  refine ce_cVp dX0_factOfWine_115 hX5_ofWine kRX0_91 (n_X5_ofWine (hL).2.2.2.2.1.1 (w := w) (by omega) (fun m => K 7 (m * 6 + w)) (fun m hm => (hr).t 7 (by decide) (by omega)) (kv_sum K 7 (w)) rfl) rfl rfl ((hL).2.2.2.2.1.1).1 rfl (by decide) (Nat.le_of_ble_eq_true rfl) ?_
  refine ce_iret dX0_factOfWine_118 rfl rfl (by decide) (by decide) ?_
  exact ⟨rfl, rfl, rfl⟩
set_option maxHeartbeats 2000000 in
set_option maxRecDepth 20000 in
theorem m_X0_factOfBoth0 {σ : ce_S} {g : ce_D} (c : Nat) (K : ce_V) (O : Nat → Int32) (hL : ce_LC σ c) (hr : ce_rC g c K O) (hk : kv_cl K) (m w : Nat) (hm : m < 6) (hw : w < 6) : ce_CT (ce_r 1) mX0_factOfBoth [.ref (c), .int (nI (m)), .int (nI (w)), .int (nI (0))] σ g (ce_pv (nI (K 7 (m * 6 + w))) σ g) ce_no := by
  have hB := hk.i7
  have hM := hk.me
  have hW := hk.wi
  refine ce_enter (by decide) rfl (Nat.le_of_ble_eq_true rfl) (L := [some (.ref (c)), some (.int (nI (m))), some (.int (nI (w))), some (.int (nI (0)))]) rfl ?_
  refine ce_iload_n dX0_factOfBoth_0 rfl ?_
  refine ce_lookup (off := 27) (tgt := 28) dX0_factOfBoth_1 (by decide) (by decide) (by decide) ?_
  refine ce_aload_n dX0_factOfBoth_28 rfl ?_
  refine ce_getR dX0_factOfBoth_29 fRX0_36 (hL).1 (hL).2.2.1.1 ?_
  refine ce_iload_n dX0_factOfBoth_32 rfl ?_
  refine ce_iload_n dX0_factOfBoth_33 rfl ?_
  refine ce_cVp dX0_factOfBoth_34 hX5_of kRX0_94 (n_X5_of (hL).2.2.2.2.1.1 (m := m) (w := w) (by omega) (by omega) (nI (K 7 (m * 6 + w))) ((hr).t 7 (by decide) (by omega))) rfl rfl ((hL).2.2.2.2.1.1).1 rfl (by decide) (Nat.le_of_ble_eq_true rfl) ?_
  refine ce_iret dX0_factOfBoth_37 rfl rfl (by decide) (by decide) ?_
  exact ⟨rfl, rfl, rfl⟩
set_option maxHeartbeats 2000000 in
set_option maxRecDepth 20000 in
theorem m_X0_factOfBoth1 {σ : ce_S} {g : ce_D} (c : Nat) (K : ce_V) (O : Nat → Int32) (hL : ce_LC σ c) (hr : ce_rC g c K O) (hk : kv_cl K) (m w : Nat) (hm : m < 6) (hw : w < 6) : ce_CT (ce_r 1) mX0_factOfBoth [.ref (c), .int (nI (m)), .int (nI (w)), .int (nI (1))] σ g (ce_pv (nI (K 8 (m * 6 + w))) σ g) ce_no := by
  have hB := hk.i7
  have hM := hk.me
  have hW := hk.wi
  refine ce_enter (by decide) rfl (Nat.le_of_ble_eq_true rfl) (L := [some (.ref (c)), some (.int (nI (m))), some (.int (nI (w))), some (.int (nI (1)))]) rfl ?_
  refine ce_iload_n dX0_factOfBoth_0 rfl ?_
  refine ce_lookup (off := 37) (tgt := 38) dX0_factOfBoth_1 (by decide) (by decide) (by decide) ?_
  refine ce_aload_n dX0_factOfBoth_38 rfl ?_
  refine ce_getR dX0_factOfBoth_39 fRX0_40 (hL).1 (hL).2.2.1.2.1 ?_
  refine ce_iload_n dX0_factOfBoth_42 rfl ?_
  refine ce_iload_n dX0_factOfBoth_43 rfl ?_
  refine ce_cVp dX0_factOfBoth_44 hX5_of kRX0_94 (n_X5_of (hL).2.2.2.2.1.2.1 (m := m) (w := w) (by omega) (by omega) (nI (K 8 (m * 6 + w))) ((hr).t 8 (by decide) (by omega))) rfl rfl ((hL).2.2.2.2.1.2.1).1 rfl (by decide) (Nat.le_of_ble_eq_true rfl) ?_
  refine ce_iret dX0_factOfBoth_47 rfl rfl (by decide) (by decide) ?_
  exact ⟨rfl, rfl, rfl⟩
set_option maxHeartbeats 2000000 in
set_option maxRecDepth 20000 in
theorem m_X0_factOfBoth2 {σ : ce_S} {g : ce_D} (c : Nat) (K : ce_V) (O : Nat → Int32) (hL : ce_LC σ c) (hr : ce_rC g c K O) (hk : kv_cl K) (m w : Nat) (hm : m < 6) (hw : w < 6) : ce_CT (ce_r 1) mX0_factOfBoth [.ref (c), .int (nI (m)), .int (nI (w)), .int (nI (2))] σ g (ce_pv (nI (K 9 (m * 6 + w))) σ g) ce_no := by
  have hB := hk.i7
  have hM := hk.me
  have hW := hk.wi
  refine ce_enter (by decide) rfl (Nat.le_of_ble_eq_true rfl) (L := [some (.ref (c)), some (.int (nI (m))), some (.int (nI (w))), some (.int (nI (2)))]) rfl ?_
  refine ce_iload_n dX0_factOfBoth_0 rfl ?_
  refine ce_lookup (off := 47) (tgt := 48) dX0_factOfBoth_1 (by decide) (by decide) (by decide) ?_
  refine ce_aload_n dX0_factOfBoth_48 rfl ?_
  refine ce_getR dX0_factOfBoth_49 fRX0_43 (hL).1 (hL).2.2.1.2.2.1 ?_
  refine ce_iload_n dX0_factOfBoth_52 rfl ?_
  refine ce_iload_n dX0_factOfBoth_53 rfl ?_
  refine ce_cVp dX0_factOfBoth_54 hX5_of kRX0_94 (n_X5_of (hL).2.2.2.2.1.2.2.1 (m := m) (w := w) (by omega) (by omega) (nI (K 9 (m * 6 + w))) ((hr).t 9 (by decide) (by omega))) rfl rfl ((hL).2.2.2.2.1.2.2.1).1 rfl (by decide) (Nat.le_of_ble_eq_true rfl) ?_
  refine ce_iret dX0_factOfBoth_57 rfl rfl (by decide) (by decide) ?_
  exact ⟨rfl, rfl, rfl⟩
set_option maxHeartbeats 2000000 in
set_option maxRecDepth 20000 in
theorem m_X0_memberFault {σ : ce_S} {g : ce_D} (c : Nat) (K : ce_V) (O : Nat → Int32) (hL : ce_LC σ c) (hr : ce_rC g c K O) (hk : kv_cl K) (x : Int32) : ce_CT (ce_r 0) mX0_memberFault [.ref (c), .int (x)] σ g (ce_pv (nI (kv_memF K x)) σ g) ce_no := by
  have hB := hk.i7
  have hM := hk.me
  have hW := hk.wi
  refine ce_enter (by decide) rfl (Nat.le_of_ble_eq_true rfl) (L := [some (.ref (c)), some (.int (x))]) rfl ?_
  refine ce_iload_n dX0_memberFault_0 rfl ?_
  refine ce_if_ltI (tgt := 11) dX0_memberFault_1 (by decide) (p := (x).toInt) rfl (fun c_1 => ?_) (fun c_1 => ?_)
  · refine ce_iconst (v := nI (2)) dX0_memberFault_11 (by decide) ?_
    refine ce_iret dX0_memberFault_12 rfl rfl (by decide) (by decide) ?_
    exact ⟨congrArg (fun z => some (Value.int z)) (congrArg nI (show 2 = _ by unfold kv_memF; (try unfold ce_n); (try simp only [Int.toNat_natCast]); (try unfold ce_in at *); (repeat' split) <;> first | rfl | (exfalso; omega))), rfl, rfl⟩
  · refine ce_iload_n dX0_memberFault_4 rfl ?_
    refine ce_sipush (v := nI (999)) dX0_memberFault_5 (by decide) ?_
    refine ce_icmp_leI (p := (x).toInt) (q := ((999 : Nat) : Int)) (tgt := 13) dX0_memberFault_8 (by decide) rfl (nI_toInt (by omega)) (fun c_8 => ?_) (fun c_8 => ?_)
    · refine ce_aload_n dX0_memberFault_13 rfl ?_
      refine ce_getIv dX0_memberFault_14 fRX0_56 (hL).1 (hr).1 ?_
      refine ce_bipush (v := nI (6)) dX0_memberFault_17 (by decide) ?_
      refine ce_icmp_geN (tgt := 26) dX0_memberFault_19 (by decide) rfl rfl (by omega) (by omega) (fun c_19 => ?_) (fun c_19 => ?_)
      · refine ce_iconst (v := nI (3)) dX0_memberFault_26 (by decide) ?_
        refine ce_iret dX0_memberFault_27 rfl rfl (by decide) (by decide) ?_
        exact ⟨congrArg (fun z => some (Value.int z)) (congrArg nI (show 3 = _ by unfold kv_memF; (try unfold ce_n); (try simp only [Int.toNat_natCast]); (try unfold ce_in at *); (repeat' split) <;> first | rfl | (exfalso; omega))), rfl, rfl⟩
      · refine ce_iconst (v := nI (0)) dX0_memberFault_22 (by decide) ?_
        refine ce_goto (tgt := 27) dX0_memberFault_23 (by decide) ?_
        refine ce_iret dX0_memberFault_27 rfl rfl (by decide) (by decide) ?_
        exact ⟨congrArg (fun z => some (Value.int z)) (congrArg nI (show 0 = _ by unfold kv_memF; (try unfold ce_n); (try simp only [Int.toNat_natCast]); (try unfold ce_in at *); (repeat' split) <;> first | rfl | (exfalso; omega))), rfl, rfl⟩
    · refine ce_iconst (v := nI (2)) dX0_memberFault_11 (by decide) ?_
      refine ce_iret dX0_memberFault_12 rfl rfl (by decide) (by decide) ?_
      exact ⟨congrArg (fun z => some (Value.int z)) (congrArg nI (show 2 = _ by unfold kv_memF; (try unfold ce_n); (try simp only [Int.toNat_natCast]); (try unfold ce_in at *); (repeat' split) <;> first | rfl | (exfalso; omega))), rfl, rfl⟩
set_option maxHeartbeats 2000000 in
set_option maxRecDepth 20000 in
theorem m_X0_wineFault {σ : ce_S} {g : ce_D} (c : Nat) (K : ce_V) (O : Nat → Int32) (hL : ce_LC σ c) (hr : ce_rC g c K O) (hk : kv_cl K) (x y : Int32) : ce_CT (ce_r 0) mX0_wineFault [.ref (c), .int (x), .int (y)] σ g (ce_pv (nI (kv_winF K x y)) σ g) ce_no := by
  have hB := hk.i7
  have hM := hk.me
  have hW := hk.wi
  refine ce_enter (by decide) rfl (Nat.le_of_ble_eq_true rfl) (L := [some (.ref (c)), some (.int (x)), some (.int (y))]) rfl ?_
  refine ce_iload_n dX0_wineFault_0 rfl ?_
  refine ce_iconst (v := nI (1)) dX0_wineFault_1 (by decide) ?_
  refine ce_icmp_ltI (p := (x).toInt) (q := ((1 : Nat) : Int)) (tgt := 21) dX0_wineFault_2 (by decide) rfl (nI_toInt (by omega)) (fun c_2 => ?_) (fun c_2 => ?_)
  · refine ce_iconst (v := nI (2)) dX0_wineFault_21 (by decide) ?_
    refine ce_iret dX0_wineFault_22 rfl rfl (by decide) (by decide) ?_
    exact ⟨congrArg (fun z => some (Value.int z)) (congrArg nI (show 2 = _ by unfold kv_winF; (try unfold ce_n); (try simp only [Int.toNat_natCast]); (try unfold ce_in at *); (repeat' split) <;> first | rfl | (exfalso; omega))), rfl, rfl⟩
  · refine ce_iload_n dX0_wineFault_5 rfl ?_
    refine ce_bipush (v := nI (99)) dX0_wineFault_6 (by decide) ?_
    refine ce_icmp_gtI (p := (x).toInt) (q := ((99 : Nat) : Int)) (tgt := 21) dX0_wineFault_8 (by decide) rfl (nI_toInt (by omega)) (fun c_8 => ?_) (fun c_8 => ?_)
    · refine ce_iconst (v := nI (2)) dX0_wineFault_21 (by decide) ?_
      refine ce_iret dX0_wineFault_22 rfl rfl (by decide) (by decide) ?_
      exact ⟨congrArg (fun z => some (Value.int z)) (congrArg nI (show 2 = _ by unfold kv_winF; (try unfold ce_n); (try simp only [Int.toNat_natCast]); (try unfold ce_in at *); (repeat' split) <;> first | rfl | (exfalso; omega))), rfl, rfl⟩
    · refine ce_iload_n dX0_wineFault_11 rfl ?_
      refine ce_if_ltI (tgt := 21) dX0_wineFault_12 (by decide) (p := (y).toInt) rfl (fun c_12 => ?_) (fun c_12 => ?_)
      · refine ce_iconst (v := nI (2)) dX0_wineFault_21 (by decide) ?_
        refine ce_iret dX0_wineFault_22 rfl rfl (by decide) (by decide) ?_
        exact ⟨congrArg (fun z => some (Value.int z)) (congrArg nI (show 2 = _ by unfold kv_winF; (try unfold ce_n); (try simp only [Int.toNat_natCast]); (try unfold ce_in at *); (repeat' split) <;> first | rfl | (exfalso; omega))), rfl, rfl⟩
      · refine ce_iload_n dX0_wineFault_15 rfl ?_
        refine ce_bipush (v := nI (60)) dX0_wineFault_16 (by decide) ?_
        refine ce_icmp_leI (p := (y).toInt) (q := ((60 : Nat) : Int)) (tgt := 23) dX0_wineFault_18 (by decide) rfl (nI_toInt (by omega)) (fun c_18 => ?_) (fun c_18 => ?_)
        · refine ce_aload_n dX0_wineFault_23 rfl ?_
          refine ce_getIv dX0_wineFault_24 fRX0_60 (hL).1 (hr).2.1 ?_
          refine ce_bipush (v := nI (6)) dX0_wineFault_27 (by decide) ?_
          refine ce_icmp_geN (tgt := 36) dX0_wineFault_29 (by decide) rfl rfl (by omega) (by omega) (fun c_29 => ?_) (fun c_29 => ?_)
          · refine ce_iconst (v := nI (3)) dX0_wineFault_36 (by decide) ?_
            refine ce_iret dX0_wineFault_37 rfl rfl (by decide) (by decide) ?_
            exact ⟨congrArg (fun z => some (Value.int z)) (congrArg nI (show 3 = _ by unfold kv_winF; (try unfold ce_n); (try simp only [Int.toNat_natCast]); (try unfold ce_in at *); (repeat' split) <;> first | rfl | (exfalso; omega))), rfl, rfl⟩
          · refine ce_iconst (v := nI (0)) dX0_wineFault_32 (by decide) ?_
            refine ce_goto (tgt := 37) dX0_wineFault_33 (by decide) ?_
            refine ce_iret dX0_wineFault_37 rfl rfl (by decide) (by decide) ?_
            exact ⟨congrArg (fun z => some (Value.int z)) (congrArg nI (show 0 = _ by unfold kv_winF; (try unfold ce_n); (try simp only [Int.toNat_natCast]); (try unfold ce_in at *); (repeat' split) <;> first | rfl | (exfalso; omega))), rfl, rfl⟩
        · refine ce_iconst (v := nI (2)) dX0_wineFault_21 (by decide) ?_
          refine ce_iret dX0_wineFault_22 rfl rfl (by decide) (by decide) ?_
          exact ⟨congrArg (fun z => some (Value.int z)) (congrArg nI (show 2 = _ by unfold kv_winF; (try unfold ce_n); (try simp only [Int.toNat_natCast]); (try unfold ce_in at *); (repeat' split) <;> first | rfl | (exfalso; omega))), rfl, rfl⟩
set_option maxHeartbeats 2000000 in
set_option maxRecDepth 20000 in
theorem m_X0_orderFault {σ : ce_S} {g : ce_D} (c : Nat) (K : ce_V) (O : Nat → Int32) (hL : ce_LC σ c) (hr : ce_rC g c K O) (hk : kv_cl K) (x y n : Int32) : ce_CT (ce_r 2) mX0_orderFault [.ref (c), .int (x), .int (y), .int (n)] σ g (ce_pv (nI (kv_ordF K x y n)) σ g) ce_no := by
  have hB := hk.i7
  have hM := hk.me
  have hW := hk.wi
  refine ce_enter (by decide) rfl (Nat.le_of_ble_eq_true rfl) (L := [some (.ref (c)), some (.int (x)), some (.int (y)), some (.int (n))]) rfl ?_
  refine ce_aload_n dX0_orderFault_0 rfl ?_
  refine ce_iload_n dX0_orderFault_1 rfl ?_
  refine ce_iload_n dX0_orderFault_2 rfl ?_
  refine ce_cVp dX0_orderFault_3 hX0_knowsBoth kRX0_98 (m_X0_knowsBoth c K O hL hr hk (x) (y)) rfl rfl (hL).1 rfl (by decide) (Nat.le_of_ble_eq_true rfl) ?_
  refine ce_if_neB (tgt := 11) dX0_orderFault_6 (by decide) rfl (fun c_6 => ?_) (fun c_6 => ?_)
  · obtain ⟨m, hm, rfl⟩ := ce_in_ex c_6.1
    have em := nI_toInt (n := m) (by omega)
    obtain ⟨w, hw, rfl⟩ := ce_in_ex c_6.2
    have ew := nI_toInt (n := w) (by omega)
    have hl := hk.le (m := m) (w := w) (by omega) (by omega)
    have hs := hk.st w
    refine ce_iload_n dX0_orderFault_11 rfl ?_
    refine ce_if_ltI (tgt := 21) dX0_orderFault_12 (by decide) (p := (n).toInt) rfl (fun c_12 => ?_) (fun c_12 => ?_)
    · refine ce_iconst (v := nI (2)) dX0_orderFault_21 (by decide) ?_
      refine ce_iret dX0_orderFault_22 rfl rfl (by decide) (by decide) ?_
      exact ⟨congrArg (fun z => some (Value.int z)) (congrArg nI (show 2 = _ by unfold kv_ordF; (try unfold ce_n); (try simp only [em, ew, Int.toNat_natCast]); (try unfold ce_in at *); (repeat' split) <;> first | rfl | (exfalso; omega))), rfl, rfl⟩
    · refine ce_iload_n dX0_orderFault_15 rfl ?_
      refine ce_bipush (v := nI (60)) dX0_orderFault_16 (by decide) ?_
      refine ce_icmp_leI (p := (n).toInt) (q := ((60 : Nat) : Int)) (tgt := 23) dX0_orderFault_18 (by decide) rfl (nI_toInt (by omega)) (fun c_18 => ?_) (fun c_18 => ?_)
      · refine ce_aload_n dX0_orderFault_23 rfl ?_
        refine ce_getR dX0_orderFault_24 fRX0_27 (hL).1 (hL).2.1.2.2.2.2.2.1 ?_
        refine ce_iload_n dX0_orderFault_27 rfl ?_
        refine ce_ialdv dX0_orderFault_28 ((hL).2.2.2.1.2.2.2.2.2.1).1 rfl ((hL).2.2.2.1.2.2.2.2.2.1).2 (by omega) (by decide) ((hr).r 5 (by decide) (by omega)) ?_
        refine ce_if_neN (tgt := 36) dX0_orderFault_29 (by decide) rfl (by omega) (fun c_29 => ?_) (fun c_29 => ?_)
        · refine ce_iconst (v := nI (3)) dX0_orderFault_36 (by decide) ?_
          refine ce_iret dX0_orderFault_37 rfl rfl (by decide) (by decide) ?_
          exact ⟨congrArg (fun z => some (Value.int z)) (congrArg nI (show 3 = _ by unfold kv_ordF; (try unfold ce_n); (try simp only [em, ew, Int.toNat_natCast]); (try unfold ce_in at *); (repeat' split) <;> first | rfl | (exfalso; omega))), rfl, rfl⟩
        · refine ce_iconst (v := nI (0)) dX0_orderFault_32 (by decide) ?_
          refine ce_goto (tgt := 37) dX0_orderFault_33 (by decide) ?_
          refine ce_iret dX0_orderFault_37 rfl rfl (by decide) (by decide) ?_
          exact ⟨congrArg (fun z => some (Value.int z)) (congrArg nI (show 0 = _ by unfold kv_ordF; (try unfold ce_n); (try simp only [em, ew, Int.toNat_natCast]); (try unfold ce_in at *); (repeat' split) <;> first | rfl | (exfalso; omega))), rfl, rfl⟩
      · refine ce_iconst (v := nI (2)) dX0_orderFault_21 (by decide) ?_
        refine ce_iret dX0_orderFault_22 rfl rfl (by decide) (by decide) ?_
        exact ⟨congrArg (fun z => some (Value.int z)) (congrArg nI (show 2 = _ by unfold kv_ordF; (try unfold ce_n); (try simp only [em, ew, Int.toNat_natCast]); (try unfold ce_in at *); (repeat' split) <;> first | rfl | (exfalso; omega))), rfl, rfl⟩
  · refine ce_iconst (v := nI (1)) dX0_orderFault_9 (by decide) ?_
    refine ce_iret dX0_orderFault_10 rfl rfl (by decide) (by decide) ?_
    exact ⟨congrArg (fun z => some (Value.int z)) (congrArg nI (show 1 = _ by unfold kv_ordF; (try unfold ce_n); (try simp only [Int.toNat_natCast]); (try unfold ce_in at *); (repeat' split) <;> first | rfl | (exfalso; omega))), rfl, rfl⟩
set_option maxHeartbeats 2000000 in
set_option maxRecDepth 20000 in
theorem m_X0_allocationFault {σ : ce_S} {g : ce_D} (c : Nat) (K : ce_V) (O : Nat → Int32) (hL : ce_LC σ c) (hr : ce_rC g c K O) (hk : kv_cl K) (y : Int32) : ce_CT (ce_r 1) mX0_allocationFault [.ref (c), .int (y)] σ g (ce_pv (nI (kv_allF K y)) σ g) ce_no := by
  have hB := hk.i7
  have hM := hk.me
  have hW := hk.wi
  refine ce_enter (by decide) rfl (Nat.le_of_ble_eq_true rfl) (L := [some (.ref (c)), some (.int (y))]) rfl ?_
  refine ce_aload_n dX0_allocationFault_0 rfl ?_
  refine ce_iload_n dX0_allocationFault_1 rfl ?_
  refine ce_cVp dX0_allocationFault_2 hX0_knowsWine kRX0_67 (m_X0_knowsWine c K O hL hr hk (y)) rfl rfl (hL).1 rfl (by decide) (Nat.le_of_ble_eq_true rfl) ?_
  refine ce_if_neB (tgt := 10) dX0_allocationFault_5 (by decide) rfl (fun c_5 => ?_) (fun c_5 => ?_)
  · obtain ⟨w, hw, rfl⟩ := ce_in_ex c_5
    have ew := nI_toInt (n := w) (by omega)
    have hl := hk.le (m := 0) (w := w) (by omega) (by omega)
    have hs := hk.st w
    refine ce_aload_n dX0_allocationFault_10 rfl ?_
    refine ce_getR dX0_allocationFault_11 fRX0_27 (hL).1 (hL).2.1.2.2.2.2.2.1 ?_
    refine ce_iload_n dX0_allocationFault_14 rfl ?_
    refine ce_ialdv dX0_allocationFault_15 ((hL).2.2.2.1.2.2.2.2.2.1).1 rfl ((hL).2.2.2.1.2.2.2.2.2.1).2 (by omega) (by decide) ((hr).r 5 (by decide) (by omega)) ?_
    refine ce_if_neN (tgt := 23) dX0_allocationFault_16 (by decide) rfl (by omega) (fun c_16 => ?_) (fun c_16 => ?_)
    · refine ce_iconst (v := nI (3)) dX0_allocationFault_23 (by decide) ?_
      refine ce_iret dX0_allocationFault_24 rfl rfl (by decide) (by decide) ?_
      exact ⟨congrArg (fun z => some (Value.int z)) (congrArg nI (show 3 = _ by unfold kv_allF; (try unfold ce_n); (try simp only [ew, Int.toNat_natCast]); (try unfold ce_in at *); (repeat' split) <;> first | rfl | (exfalso; omega))), rfl, rfl⟩
    · refine ce_iconst (v := nI (0)) dX0_allocationFault_19 (by decide) ?_
      refine ce_goto (tgt := 24) dX0_allocationFault_20 (by decide) ?_
      refine ce_iret dX0_allocationFault_24 rfl rfl (by decide) (by decide) ?_
      exact ⟨congrArg (fun z => some (Value.int z)) (congrArg nI (show 0 = _ by unfold kv_allF; (try unfold ce_n); (try simp only [ew, Int.toNat_natCast]); (try unfold ce_in at *); (repeat' split) <;> first | rfl | (exfalso; omega))), rfl, rfl⟩
  · refine ce_iconst (v := nI (1)) dX0_allocationFault_8 (by decide) ?_
    refine ce_iret dX0_allocationFault_9 rfl rfl (by decide) (by decide) ?_
    exact ⟨congrArg (fun z => some (Value.int z)) (congrArg nI (show 1 = _ by unfold kv_allF; (try unfold ce_n); (try simp only [Int.toNat_natCast]); (try unfold ce_in at *); (repeat' split) <;> first | rfl | (exfalso; omega))), rfl, rfl⟩
theorem kv_room_le1 {K : ce_V} (hk : kv_rk K) (w : Nat) : ∀ n, ce_sum (kv_room K w) n ≤ 24 * n
  | 0 => Nat.le_refl _
  | n + 1 => by
    have := kv_room_le1 hk w n
    have h1 := hk.2.1 n
    have : kv_room K w n ≤ 24 := by unfold kv_room; split <;> omega
    rw [ce_sum]
    omega
theorem kv_room_le {K : ce_V} (hk : kv_rk K) (w : Nat) : ce_sum (kv_room K w) (K 0 2) ≤ 192 := by
  have := kv_room_le1 hk w (K 0 2)
  have := hk.1
  omega
set_option maxHeartbeats 2000000 in
set_option maxRecDepth 20000 in
theorem m_X0_deliveryFault {σ : ce_S} {g : ce_D} (c : Nat) (K : ce_V) (O : Nat → Int32) (hL : ce_LC σ c) (hr : ce_rC g c K O) (hk : kv_cl K) (y : Int32) : ce_CT (ce_r 2) mX0_deliveryFault [.ref (c), .int (y)] σ g (ce_pv (nI (kv_delF K y)) σ g) ce_no := by
  have hB := hk.i7
  have hM := hk.me
  have hW := hk.wi
  refine ce_enter (by decide) rfl (Nat.le_of_ble_eq_true rfl) (L := [some (.ref (c)), some (.int (y))]) rfl ?_
  refine ce_aload_n dX0_deliveryFault_0 rfl ?_
  refine ce_iload_n dX0_deliveryFault_1 rfl ?_
  refine ce_cVp dX0_deliveryFault_2 hX0_knowsWine kRX0_67 (m_X0_knowsWine c K O hL hr hk (y)) rfl rfl (hL).1 rfl (by decide) (Nat.le_of_ble_eq_true rfl) ?_
  refine ce_if_neB (tgt := 10) dX0_deliveryFault_5 (by decide) rfl (fun c_5 => ?_) (fun c_5 => ?_)
  · obtain ⟨w, hw, rfl⟩ := ce_in_ex c_5
    have ew := nI_toInt (n := w) (by omega)
    have hl := hk.le (m := 0) (w := w) (by omega) (by omega)
    have hs := hk.st w
    have hb := hk.bo w (by omega)
    have hq := kv_room_le hk.rk w
    refine ce_aload_n dX0_deliveryFault_10 rfl ?_
    refine ce_getR dX0_deliveryFault_11 fRX0_27 (hL).1 (hL).2.1.2.2.2.2.2.1 ?_
    refine ce_iload_n dX0_deliveryFault_14 rfl ?_
    refine ce_ialdv dX0_deliveryFault_15 ((hL).2.2.2.1.2.2.2.2.2.1).1 rfl ((hL).2.2.2.1.2.2.2.2.2.1).2 (by omega) (by decide) ((hr).r 5 (by decide) (by omega)) ?_
    refine ce_iconst (v := nI (1)) dX0_deliveryFault_16 (by decide) ?_
    refine ce_icmp_neN (tgt := 39) dX0_deliveryFault_17 (by decide) rfl rfl (by omega) (by omega) (fun c_17 => ?_) (fun c_17 => ?_)
    · refine ce_iconst (v := nI (3)) dX0_deliveryFault_39 (by decide) ?_
      refine ce_iret dX0_deliveryFault_40 rfl rfl (by decide) (by decide) ?_
      exact ⟨congrArg (fun z => some (Value.int z)) (congrArg nI (show 3 = _ by unfold kv_delF; (try unfold ce_n); (try simp only [ew, Int.toNat_natCast]); (try unfold ce_in at *); (repeat' split) <;> first | rfl | (exfalso; omega))), rfl, rfl⟩
    · refine ce_aload_n dX0_deliveryFault_20 rfl ?_
      refine ce_getR dX0_deliveryFault_21 fRX0_40 (hL).1 (hL).2.2.1.2.1 ?_
      refine ce_iload_n dX0_deliveryFault_24 rfl ?_
      refine ce_cVp dX0_deliveryFault_25 hX5_ofWine kRX0_91 (n_X5_ofWine (hL).2.2.2.2.1.2.1 (w := w) (by omega) (fun m => K 8 (m * 6 + w)) (fun m hm => (hr).t 8 (by decide) (by omega)) (kv_sum K 8 (w)) rfl) rfl rfl ((hL).2.2.2.2.1.2.1).1 rfl (by decide) (Nat.le_of_ble_eq_true rfl) ?_
      refine ce_aload_n dX0_deliveryFault_28 rfl ?_
      refine ce_getR dX0_deliveryFault_29 fRX0_52 (hL).1 (hL).2.2.1.2.2.2.2 ?_
      refine ce_iload_n dX0_deliveryFault_32 rfl ?_
      refine ce_cVp dX0_deliveryFault_33 hX3_roomForWine kRX0_125 (m_X3_roomForWine _ K (hL).2.2.2.2.2 (hr).k hk.rk (w) (by omega)) rfl rfl ((hL).2.2.2.2.2).1 rfl (by decide) (Nat.le_of_ble_eq_true rfl) ?_
      refine ce_icmp_leN (tgt := 41) dX0_deliveryFault_36 (by decide) rfl rfl (by omega) (by omega) (fun c_36 => ?_) (fun c_36 => ?_)
      · refine ce_iconst (v := nI (0)) dX0_deliveryFault_41 (by decide) ?_
        refine ce_iret dX0_deliveryFault_42 rfl rfl (by decide) (by decide) ?_
        exact ⟨congrArg (fun z => some (Value.int z)) (congrArg nI (show 0 = _ by unfold kv_delF; (try unfold ce_n); (try simp only [ew, Int.toNat_natCast]); (try unfold ce_in at *); (repeat' split) <;> first | rfl | (exfalso; omega))), rfl, rfl⟩
      · refine ce_iconst (v := nI (3)) dX0_deliveryFault_39 (by decide) ?_
        refine ce_iret dX0_deliveryFault_40 rfl rfl (by decide) (by decide) ?_
        exact ⟨congrArg (fun z => some (Value.int z)) (congrArg nI (show 3 = _ by unfold kv_delF; (try unfold ce_n); (try simp only [ew, Int.toNat_natCast]); (try unfold ce_in at *); (repeat' split) <;> first | rfl | (exfalso; omega))), rfl, rfl⟩
  · refine ce_iconst (v := nI (1)) dX0_deliveryFault_8 (by decide) ?_
    refine ce_iret dX0_deliveryFault_9 rfl rfl (by decide) (by decide) ?_
    exact ⟨congrArg (fun z => some (Value.int z)) (congrArg nI (show 1 = _ by unfold kv_delF; (try unfold ce_n); (try simp only [Int.toNat_natCast]); (try unfold ce_in at *); (repeat' split) <;> first | rfl | (exfalso; omega))), rfl, rfl⟩
set_option maxHeartbeats 2000000 in
set_option maxRecDepth 20000 in
theorem m_X0_drinkFault {σ : ce_S} {g : ce_D} (c : Nat) (K : ce_V) (O : Nat → Int32) (hL : ce_LC σ c) (hr : ce_rC g c K O) (hk : kv_cl K) (x y n : Int32) : ce_CT (ce_r 2) mX0_drinkFault [.ref (c), .int (x), .int (y), .int (n)] σ g (ce_pv (nI (kv_driF K x y n)) σ g) ce_no := by
  have hB := hk.i7
  have hM := hk.me
  have hW := hk.wi
  refine ce_enter (by decide) rfl (Nat.le_of_ble_eq_true rfl) (L := [some (.ref (c)), some (.int (x)), some (.int (y)), some (.int (n))]) rfl ?_
  refine ce_aload_n dX0_drinkFault_0 rfl ?_
  refine ce_iload_n dX0_drinkFault_1 rfl ?_
  refine ce_iload_n dX0_drinkFault_2 rfl ?_
  refine ce_cVp dX0_drinkFault_3 hX0_knowsBoth kRX0_98 (m_X0_knowsBoth c K O hL hr hk (x) (y)) rfl rfl (hL).1 rfl (by decide) (Nat.le_of_ble_eq_true rfl) ?_
  refine ce_if_neB (tgt := 11) dX0_drinkFault_6 (by decide) rfl (fun c_6 => ?_) (fun c_6 => ?_)
  · obtain ⟨m, hm, rfl⟩ := ce_in_ex c_6.1
    have em := nI_toInt (n := m) (by omega)
    obtain ⟨w, hw, rfl⟩ := ce_in_ex c_6.2
    have ew := nI_toInt (n := w) (by omega)
    have hl := hk.le (m := m) (w := w) (by omega) (by omega)
    have hs := hk.st w
    refine ce_iload_n dX0_drinkFault_11 rfl ?_
    refine ce_iconst (v := nI (1)) dX0_drinkFault_12 (by decide) ?_
    refine ce_icmp_ltI (p := (n).toInt) (q := ((1 : Nat) : Int)) (tgt := 22) dX0_drinkFault_13 (by decide) rfl (nI_toInt (by omega)) (fun c_13 => ?_) (fun c_13 => ?_)
    · refine ce_iconst (v := nI (2)) dX0_drinkFault_22 (by decide) ?_
      refine ce_iret dX0_drinkFault_23 rfl rfl (by decide) (by decide) ?_
      exact ⟨congrArg (fun z => some (Value.int z)) (congrArg nI (show 2 = _ by unfold kv_driF; (try unfold ce_n); (try simp only [em, ew, Int.toNat_natCast]); (try unfold ce_in at *); (repeat' split) <;> first | rfl | (exfalso; omega))), rfl, rfl⟩
    · refine ce_iload_n dX0_drinkFault_16 rfl ?_
      refine ce_bipush (v := nI (60)) dX0_drinkFault_17 (by decide) ?_
      refine ce_icmp_leI (p := (n).toInt) (q := ((60 : Nat) : Int)) (tgt := 24) dX0_drinkFault_19 (by decide) rfl (nI_toInt (by omega)) (fun c_19 => ?_) (fun c_19 => ?_)
      · refine ce_aload_n dX0_drinkFault_24 rfl ?_
        refine ce_getR dX0_drinkFault_25 fRX0_43 (hL).1 (hL).2.2.1.2.2.1 ?_
        refine ce_iload_n dX0_drinkFault_28 rfl ?_
        refine ce_iload_n dX0_drinkFault_29 rfl ?_
        refine ce_cVp dX0_drinkFault_30 hX5_of kRX0_94 (n_X5_of (hL).2.2.2.2.1.2.2.1 (m := m) (w := w) (by omega) (by omega) (nI (K 9 (m * 6 + w))) ((hr).t 9 (by decide) (by omega))) rfl rfl ((hL).2.2.2.2.1.2.2.1).1 rfl (by decide) (Nat.le_of_ble_eq_true rfl) ?_
        refine ce_iload_n dX0_drinkFault_33 rfl ?_
        refine ce_icmp_ltI (p := ((K 9 (m * 6 + w) : Nat) : Int)) (q := (n).toInt) (tgt := 41) dX0_drinkFault_34 (by decide) (nI_toInt (by omega)) rfl (fun c_34 => ?_) (fun c_34 => ?_)
        · refine ce_iconst (v := nI (3)) dX0_drinkFault_41 (by decide) ?_
          refine ce_iret dX0_drinkFault_42 rfl rfl (by decide) (by decide) ?_
          exact ⟨congrArg (fun z => some (Value.int z)) (congrArg nI (show 3 = _ by unfold kv_driF; (try unfold ce_n); (try simp only [em, ew, Int.toNat_natCast]); (try unfold ce_in at *); (repeat' split) <;> first | rfl | (exfalso; omega))), rfl, rfl⟩
        · refine ce_iconst (v := nI (0)) dX0_drinkFault_37 (by decide) ?_
          refine ce_goto (tgt := 42) dX0_drinkFault_38 (by decide) ?_
          refine ce_iret dX0_drinkFault_42 rfl rfl (by decide) (by decide) ?_
          exact ⟨congrArg (fun z => some (Value.int z)) (congrArg nI (show 0 = _ by unfold kv_driF; (try unfold ce_n); (try simp only [em, ew, Int.toNat_natCast]); (try unfold ce_in at *); (repeat' split) <;> first | rfl | (exfalso; omega))), rfl, rfl⟩
      · refine ce_iconst (v := nI (2)) dX0_drinkFault_22 (by decide) ?_
        refine ce_iret dX0_drinkFault_23 rfl rfl (by decide) (by decide) ?_
        exact ⟨congrArg (fun z => some (Value.int z)) (congrArg nI (show 2 = _ by unfold kv_driF; (try unfold ce_n); (try simp only [em, ew, Int.toNat_natCast]); (try unfold ce_in at *); (repeat' split) <;> first | rfl | (exfalso; omega))), rfl, rfl⟩
  · refine ce_iconst (v := nI (1)) dX0_drinkFault_9 (by decide) ?_
    refine ce_iret dX0_drinkFault_10 rfl rfl (by decide) (by decide) ?_
    exact ⟨congrArg (fun z => some (Value.int z)) (congrArg nI (show 1 = _ by unfold kv_driF; (try unfold ce_n); (try simp only [Int.toNat_natCast]); (try unfold ce_in at *); (repeat' split) <;> first | rfl | (exfalso; omega))), rfl, rfl⟩
set_option maxHeartbeats 2000000 in
set_option maxRecDepth 20000 in
theorem m_X0_giftFault {σ : ce_S} {g : ce_D} (c : Nat) (K : ce_V) (O : Nat → Int32) (hL : ce_LC σ c) (hr : ce_rC g c K O) (hk : kv_cl K) (x z y n : Int32) : ce_CT (ce_r 2) mX0_giftFault [.ref (c), .int (x), .int (z), .int (y), .int (n)] σ g (ce_pv (nI (kv_gifF K x z y n)) σ g) ce_no := by
  have hB := hk.i7
  have hM := hk.me
  have hW := hk.wi
  refine ce_enter (by decide) rfl (Nat.le_of_ble_eq_true rfl) (L := [some (.ref (c)), some (.int (x)), some (.int (z)), some (.int (y)), some (.int (n))]) rfl ?_
  refine ce_aload_n dX0_giftFault_0 rfl ?_
  refine ce_iload_n dX0_giftFault_1 rfl ?_
  refine ce_iload_n dX0_giftFault_2 rfl ?_
  refine ce_cVp dX0_giftFault_3 hX0_knowsBoth kRX0_98 (m_X0_knowsBoth c K O hL hr hk (x) (y)) rfl rfl (hL).1 rfl (by decide) (Nat.le_of_ble_eq_true rfl) ?_
  refine ce_if_eqB (tgt := 17) dX0_giftFault_6 (by decide) rfl (fun c_6 => ?_) (fun c_6 => ?_)
  · refine ce_iconst (v := nI (1)) dX0_giftFault_17 (by decide) ?_
    refine ce_iret dX0_giftFault_18 rfl rfl (by decide) (by decide) ?_
    exact ⟨congrArg (fun z => some (Value.int z)) (congrArg nI (show 1 = _ by unfold kv_gifF; (try unfold ce_n); (try simp only [Int.toNat_natCast]); (try unfold ce_in at *); (repeat' split) <;> first | rfl | (exfalso; omega))), rfl, rfl⟩
  · refine ce_aload_n dX0_giftFault_9 rfl ?_
    refine ce_iload_n dX0_giftFault_10 rfl ?_
    refine ce_cVp dX0_giftFault_11 hX0_knowsMember kRX0_63 (m_X0_knowsMember c K O hL hr hk (z)) rfl rfl (hL).1 rfl (by decide) (Nat.le_of_ble_eq_true rfl) ?_
    refine ce_if_neB (tgt := 19) dX0_giftFault_14 (by decide) rfl (fun c_14 => ?_) (fun c_14 => ?_)
    · obtain ⟨m, hm, rfl⟩ := ce_in_ex c_6.1
      have em := nI_toInt (n := m) (by omega)
      obtain ⟨w, hw, rfl⟩ := ce_in_ex c_6.2
      have ew := nI_toInt (n := w) (by omega)
      obtain ⟨o, ho, rfl⟩ := ce_in_ex c_14
      have eo := nI_toInt (n := o) (by omega)
      have hl := hk.le (m := m) (w := w) (by omega) (by omega)
      refine ce_iload_n dX0_giftFault_19 rfl ?_
      refine ce_iload_n dX0_giftFault_20 rfl ?_
      refine ce_icmp_eqN (tgt := 37) dX0_giftFault_21 (by decide) rfl rfl (by omega) (by omega) (fun c_21 => ?_) (fun c_21 => ?_)
      · refine ce_iconst (v := nI (2)) dX0_giftFault_37 (by decide) ?_
        refine ce_iret dX0_giftFault_38 rfl rfl (by decide) (by decide) ?_
        exact ⟨congrArg (fun z => some (Value.int z)) (congrArg nI (show 2 = _ by unfold kv_gifF; (try unfold ce_n); (try simp only [em, ew, eo, Int.toNat_natCast]); (try unfold ce_in at *); (repeat' split) <;> first | rfl | (exfalso; omega))), rfl, rfl⟩
      · refine ce_iload dX0_giftFault_24 rfl ?_
        refine ce_iconst (v := nI (1)) dX0_giftFault_26 (by decide) ?_
        refine ce_icmp_ltI (p := (n).toInt) (q := ((1 : Nat) : Int)) (tgt := 37) dX0_giftFault_27 (by decide) rfl (nI_toInt (by omega)) (fun c_27 => ?_) (fun c_27 => ?_)
        · refine ce_iconst (v := nI (2)) dX0_giftFault_37 (by decide) ?_
          refine ce_iret dX0_giftFault_38 rfl rfl (by decide) (by decide) ?_
          exact ⟨congrArg (fun z => some (Value.int z)) (congrArg nI (show 2 = _ by unfold kv_gifF; (try unfold ce_n); (try simp only [em, ew, eo, Int.toNat_natCast]); (try unfold ce_in at *); (repeat' split) <;> first | rfl | (exfalso; omega))), rfl, rfl⟩
        · refine ce_iload dX0_giftFault_30 rfl ?_
          refine ce_bipush (v := nI (60)) dX0_giftFault_32 (by decide) ?_
          refine ce_icmp_leI (p := (n).toInt) (q := ((60 : Nat) : Int)) (tgt := 39) dX0_giftFault_34 (by decide) rfl (nI_toInt (by omega)) (fun c_34 => ?_) (fun c_34 => ?_)
          · refine ce_aload_n dX0_giftFault_39 rfl ?_
            refine ce_getR dX0_giftFault_40 fRX0_43 (hL).1 (hL).2.2.1.2.2.1 ?_
            refine ce_iload_n dX0_giftFault_43 rfl ?_
            refine ce_iload_n dX0_giftFault_44 rfl ?_
            refine ce_cVp dX0_giftFault_45 hX5_of kRX0_94 (n_X5_of (hL).2.2.2.2.1.2.2.1 (m := m) (w := w) (by omega) (by omega) (nI (K 9 (m * 6 + w))) ((hr).t 9 (by decide) (by omega))) rfl rfl ((hL).2.2.2.2.1.2.2.1).1 rfl (by decide) (Nat.le_of_ble_eq_true rfl) ?_
            refine ce_iload dX0_giftFault_48 rfl ?_
            refine ce_icmp_ltI (p := ((K 9 (m * 6 + w) : Nat) : Int)) (q := (n).toInt) (tgt := 57) dX0_giftFault_50 (by decide) (nI_toInt (by omega)) rfl (fun c_50 => ?_) (fun c_50 => ?_)
            · refine ce_iconst (v := nI (3)) dX0_giftFault_57 (by decide) ?_
              refine ce_iret dX0_giftFault_58 rfl rfl (by decide) (by decide) ?_
              exact ⟨congrArg (fun z => some (Value.int z)) (congrArg nI (show 3 = _ by unfold kv_gifF; (try unfold ce_n); (try simp only [em, ew, eo, Int.toNat_natCast]); (try unfold ce_in at *); (repeat' split) <;> first | rfl | (exfalso; omega))), rfl, rfl⟩
            · refine ce_iconst (v := nI (0)) dX0_giftFault_53 (by decide) ?_
              refine ce_goto (tgt := 58) dX0_giftFault_54 (by decide) ?_
              refine ce_iret dX0_giftFault_58 rfl rfl (by decide) (by decide) ?_
              exact ⟨congrArg (fun z => some (Value.int z)) (congrArg nI (show 0 = _ by unfold kv_gifF; (try unfold ce_n); (try simp only [em, ew, eo, Int.toNat_natCast]); (try unfold ce_in at *); (repeat' split) <;> first | rfl | (exfalso; omega))), rfl, rfl⟩
          · refine ce_iconst (v := nI (2)) dX0_giftFault_37 (by decide) ?_
            refine ce_iret dX0_giftFault_38 rfl rfl (by decide) (by decide) ?_
            exact ⟨congrArg (fun z => some (Value.int z)) (congrArg nI (show 2 = _ by unfold kv_gifF; (try unfold ce_n); (try simp only [em, ew, eo, Int.toNat_natCast]); (try unfold ce_in at *); (repeat' split) <;> first | rfl | (exfalso; omega))), rfl, rfl⟩
    · refine ce_iconst (v := nI (1)) dX0_giftFault_17 (by decide) ?_
      refine ce_iret dX0_giftFault_18 rfl rfl (by decide) (by decide) ?_
      exact ⟨congrArg (fun z => some (Value.int z)) (congrArg nI (show 1 = _ by unfold kv_gifF; (try unfold ce_n); (try simp only [Int.toNat_natCast]); (try unfold ce_in at *); (repeat' split) <;> first | rfl | (exfalso; omega))), rfl, rfl⟩
set_option maxHeartbeats 2000000 in
set_option maxRecDepth 20000 in
theorem m_X0_corkFault {σ : ce_S} {g : ce_D} (c : Nat) (K : ce_V) (O : Nat → Int32) (hL : ce_LC σ c) (hr : ce_rC g c K O) (hk : kv_cl K) (x y : Int32) : ce_CT (ce_r 2) mX0_corkFault [.ref (c), .int (x), .int (y)] σ g (ce_pv (nI (kv_corF K x y)) σ g) ce_no := by
  have hB := hk.i7
  have hM := hk.me
  have hW := hk.wi
  refine ce_enter (by decide) rfl (Nat.le_of_ble_eq_true rfl) (L := [some (.ref (c)), some (.int (x)), some (.int (y))]) rfl ?_
  refine ce_aload_n dX0_corkFault_0 rfl ?_
  refine ce_iload_n dX0_corkFault_1 rfl ?_
  refine ce_iload_n dX0_corkFault_2 rfl ?_
  refine ce_cVp dX0_corkFault_3 hX0_knowsBoth kRX0_98 (m_X0_knowsBoth c K O hL hr hk (x) (y)) rfl rfl (hL).1 rfl (by decide) (Nat.le_of_ble_eq_true rfl) ?_
  refine ce_if_neB (tgt := 11) dX0_corkFault_6 (by decide) rfl (fun c_6 => ?_) (fun c_6 => ?_)
  · obtain ⟨m, hm, rfl⟩ := ce_in_ex c_6.1
    have em := nI_toInt (n := m) (by omega)
    obtain ⟨w, hw, rfl⟩ := ce_in_ex c_6.2
    have ew := nI_toInt (n := w) (by omega)
    have hl := hk.le (m := m) (w := w) (by omega) (by omega)
    have hs := hk.st w
    refine ce_aload_n dX0_corkFault_11 rfl ?_
    refine ce_getR dX0_corkFault_12 fRX0_43 (hL).1 (hL).2.2.1.2.2.1 ?_
    refine ce_iload_n dX0_corkFault_15 rfl ?_
    refine ce_iload_n dX0_corkFault_16 rfl ?_
    refine ce_cVp dX0_corkFault_17 hX5_of kRX0_94 (n_X5_of (hL).2.2.2.2.1.2.2.1 (m := m) (w := w) (by omega) (by omega) (nI (K 9 (m * 6 + w))) ((hr).t 9 (by decide) (by omega))) rfl rfl ((hL).2.2.2.2.1.2.2.1).1 rfl (by decide) (Nat.le_of_ble_eq_true rfl) ?_
    refine ce_if_leN (tgt := 27) dX0_corkFault_20 (by decide) rfl (by omega) (fun c_20 => ?_) (fun c_20 => ?_)
    · refine ce_iconst (v := nI (3)) dX0_corkFault_27 (by decide) ?_
      refine ce_iret dX0_corkFault_28 rfl rfl (by decide) (by decide) ?_
      exact ⟨congrArg (fun z => some (Value.int z)) (congrArg nI (show 3 = _ by unfold kv_corF; (try unfold ce_n); (try simp only [em, ew, Int.toNat_natCast]); (try unfold ce_in at *); (repeat' split) <;> first | rfl | (exfalso; omega))), rfl, rfl⟩
    · refine ce_iconst (v := nI (0)) dX0_corkFault_23 (by decide) ?_
      refine ce_goto (tgt := 28) dX0_corkFault_24 (by decide) ?_
      refine ce_iret dX0_corkFault_28 rfl rfl (by decide) (by decide) ?_
      exact ⟨congrArg (fun z => some (Value.int z)) (congrArg nI (show 0 = _ by unfold kv_corF; (try unfold ce_n); (try simp only [em, ew, Int.toNat_natCast]); (try unfold ce_in at *); (repeat' split) <;> first | rfl | (exfalso; omega))), rfl, rfl⟩
  · refine ce_iconst (v := nI (1)) dX0_corkFault_9 (by decide) ?_
    refine ce_iret dX0_corkFault_10 rfl rfl (by decide) (by decide) ?_
    exact ⟨congrArg (fun z => some (Value.int z)) (congrArg nI (show 1 = _ by unfold kv_corF; (try unfold ce_n); (try simp only [Int.toNat_natCast]); (try unfold ce_in at *); (repeat' split) <;> first | rfl | (exfalso; omega))), rfl, rfl⟩
set_option maxHeartbeats 2000000 in
set_option maxRecDepth 20000 in
theorem m_X0_paidAhead {σ : ce_S} {g : ce_D} (c : Nat) (K : ce_V) (O : Nat → Int32) (hL : ce_LC σ c) (hr : ce_rC g c K O) (hk : kv_c0 K) (w n : Nat) (hw : w < 6) (hn : n ≤ 1000) : ce_CT (ce_r 0) mX0_paidAhead [.ref (c), .int (nI (w)), .int (nI (n))] σ g (ce_pv (nI (kv_half K w n)) σ g) ce_no := by
  have hB := hk.i7
  have hM := hk.me
  have hW := hk.wi
  have hp := hk.pr w
  have hp2 : K 2 (w) * n ≤ 99 * 1000 := Nat.mul_le_mul hp hn
  refine ce_enter (by decide) rfl (Nat.le_of_ble_eq_true rfl) (L := [some (.ref (c)), some (.int (nI (w))), some (.int (nI (n)))]) rfl ?_
  refine ce_aload_n dX0_paidAhead_0 rfl ?_
  refine ce_getR dX0_paidAhead_1 fRX0_18 (hL).1 (hL).2.1.2.2.1 ?_
  refine ce_iload_n dX0_paidAhead_4 rfl ?_
  refine ce_ialdv dX0_paidAhead_5 ((hL).2.2.2.1.2.2.1).1 rfl ((hL).2.2.2.1.2.2.1).2 (by omega) (by decide) ((hr).r 2 (by decide) (by omega)) ?_
  refine ce_iload_n dX0_paidAhead_6 rfl ?_
  refine ce_imul (z := nI (K 2 (w) * n)) dX0_paidAhead_7 (pk_mul _ _) ?_
  refine ce_iconst (v := nI (1)) dX0_paidAhead_8 (by decide) ?_
  refine ce_iadd (z := nI (K 2 (w) * n + 1)) dX0_paidAhead_9 (nI_add _ _) ?_
  refine ce_iconst (v := nI (2)) dX0_paidAhead_10 (by decide) ?_
  refine ce_idiv (z := nI ((K 2 (w) * n + 1) / (2))) dX0_paidAhead_11 (nI_ne0 (by omega) (by omega)) (pk_div (by omega) (by omega) (by omega)) ?_
  refine ce_iret dX0_paidAhead_12 rfl rfl (by decide) (by decide) ?_
  exact ⟨rfl, rfl, rfl⟩
set_option maxHeartbeats 2000000 in
set_option maxRecDepth 20000 in
theorem m_X0_comesBefore {σ : ce_S} {g : ce_D} (c : Nat) (K : ce_V) (O : Nat → Int32) (hL : ce_LC σ c) (hr : ce_rC g c K O) (hk : kv_c0 K) (m o w : Nat) (hm : m < 6) (ho : o < 6) (hw : w < 6) (h1 : K 8 (m * 6 + w) ≤ 60) (h2 : K 8 (o * 6 + w) ≤ 60) : ce_CT (ce_r 1) mX0_comesBefore [.ref (c), .int (nI (m)), .int (nI (o)), .int (nI (w))] σ g (ce_pv (if (K 1 o + 1) * (K 8 (m * 6 + w) + 1) < (K 1 m + 1) * (K 8 (o * 6 + w) + 1) then 1 else 0) σ g) ce_no := by
  have hB := hk.i7
  have hM := hk.me
  have hW := hk.wi
  have hp := hk.po m
  have hp2 := hk.po o
  have q1 : (K 1 (m) + 1) * (K 8 (o * 6 + w) + 1) ≤ 1000 * 61 := Nat.mul_le_mul (by omega) (by omega)
  have q2 : (K 1 (o) + 1) * (K 8 (m * 6 + w) + 1) ≤ 1000 * 61 := Nat.mul_le_mul (by omega) (by omega)
  refine ce_enter (by decide) rfl (Nat.le_of_ble_eq_true rfl) (L := [some (.ref (c)), some (.int (nI (m))), some (.int (nI (o))), some (.int (nI (w)))]) rfl ?_
  refine ce_aload_n dX0_comesBefore_0 rfl ?_
  refine ce_getR dX0_comesBefore_1 fRX0_9 (hL).1 (hL).2.1.1 ?_
  refine ce_iload_n dX0_comesBefore_4 rfl ?_
  refine ce_ialdv dX0_comesBefore_5 ((hL).2.2.2.1.1).1 rfl ((hL).2.2.2.1.1).2 (by omega) (by decide) ((hr).r 1 (by decide) (by omega)) ?_
  refine ce_iconst (v := nI (1)) dX0_comesBefore_6 (by decide) ?_
  refine ce_iadd (z := nI (K 1 (m) + 1)) dX0_comesBefore_7 (nI_add _ _) ?_
  refine ce_aload_n dX0_comesBefore_8 rfl ?_
  refine ce_getR dX0_comesBefore_9 fRX0_40 (hL).1 (hL).2.2.1.2.1 ?_
  refine ce_iload_n dX0_comesBefore_12 rfl ?_
  refine ce_iload_n dX0_comesBefore_13 rfl ?_
  refine ce_cVp dX0_comesBefore_14 hX5_of kRX0_94 (n_X5_of (hL).2.2.2.2.1.2.1 (m := o) (w := w) (by omega) (by omega) (nI (K 8 (o * 6 + w))) ((hr).t 8 (by decide) (by omega))) rfl rfl ((hL).2.2.2.2.1.2.1).1 rfl (by decide) (Nat.le_of_ble_eq_true rfl) ?_
  refine ce_iconst (v := nI (1)) dX0_comesBefore_17 (by decide) ?_
  refine ce_iadd (z := nI (K 8 (o * 6 + w) + 1)) dX0_comesBefore_18 (nI_add _ _) ?_
  refine ce_imul (z := nI ((K 1 (m) + 1) * (K 8 (o * 6 + w) + 1))) dX0_comesBefore_19 (pk_mul _ _) ?_
  refine ce_aload_n dX0_comesBefore_20 rfl ?_
  refine ce_getR dX0_comesBefore_21 fRX0_9 (hL).1 (hL).2.1.1 ?_
  refine ce_iload_n dX0_comesBefore_24 rfl ?_
  refine ce_ialdv dX0_comesBefore_25 ((hL).2.2.2.1.1).1 rfl ((hL).2.2.2.1.1).2 (by omega) (by decide) ((hr).r 1 (by decide) (by omega)) ?_
  refine ce_iconst (v := nI (1)) dX0_comesBefore_26 (by decide) ?_
  refine ce_iadd (z := nI (K 1 (o) + 1)) dX0_comesBefore_27 (nI_add _ _) ?_
  refine ce_aload_n dX0_comesBefore_28 rfl ?_
  refine ce_getR dX0_comesBefore_29 fRX0_40 (hL).1 (hL).2.2.1.2.1 ?_
  refine ce_iload_n dX0_comesBefore_32 rfl ?_
  refine ce_iload_n dX0_comesBefore_33 rfl ?_
  refine ce_cVp dX0_comesBefore_34 hX5_of kRX0_94 (n_X5_of (hL).2.2.2.2.1.2.1 (m := m) (w := w) (by omega) (by omega) (nI (K 8 (m * 6 + w))) ((hr).t 8 (by decide) (by omega))) rfl rfl ((hL).2.2.2.2.1.2.1).1 rfl (by decide) (Nat.le_of_ble_eq_true rfl) ?_
  refine ce_iconst (v := nI (1)) dX0_comesBefore_37 (by decide) ?_
  refine ce_iadd (z := nI (K 8 (m * 6 + w) + 1)) dX0_comesBefore_38 (nI_add _ _) ?_
  refine ce_imul (z := nI ((K 1 (o) + 1) * (K 8 (m * 6 + w) + 1))) dX0_comesBefore_39 (pk_mul _ _) ?_
  refine ce_icmp_leN (tgt := 47) dX0_comesBefore_40 (by decide) rfl rfl (by omega) (by omega) (fun c_40 => ?_) (fun c_40 => ?_)
  · refine ce_iconst (v := nI (0)) dX0_comesBefore_47 (by decide) ?_
    refine ce_iret dX0_comesBefore_48 rfl (by first | rfl | decide | assumption) (by decide) (by decide) ?_
    exact ⟨congrArg (fun z => some (Value.int z)) ((if_neg (by omega)).symm), rfl, rfl⟩
  · refine ce_iconst (v := nI (1)) dX0_comesBefore_43 (by decide) ?_
    refine ce_goto (tgt := 48) dX0_comesBefore_44 (by decide) ?_
    refine ce_iret dX0_comesBefore_48 rfl (by first | rfl | decide | assumption) (by decide) (by decide) ?_
    exact ⟨congrArg (fun z => some (Value.int z)) ((if_pos (by omega)).symm), rfl, rfl⟩
