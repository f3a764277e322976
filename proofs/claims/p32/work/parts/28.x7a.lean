def kx_ran (x : Int32) (lo hi : Int) : Nat := if x.toInt < lo ∨ hi < x.toInt then 2 else 0
set_option maxHeartbeats 2000000 in
set_option maxRecDepth 20000 in
theorem m_X7_rangeFault {σ : ce_S} {g : ce_D} (x lo hi : Int32) : ce_CT (ce_r 0) mX7_rangeFault [.int (x), .int (lo), .int (hi)] σ g (ce_pv (nI (kx_ran x lo.toInt hi.toInt)) σ g) ce_no := by
  refine ce_enter (by decide) rfl (Nat.le_of_ble_eq_true rfl) (L := [some (.int (x)), some (.int (lo)), some (.int (hi))]) rfl ?_
  refine ce_iload_n dX7_rangeFault_0 rfl ?_
  refine ce_iload_n dX7_rangeFault_1 rfl ?_
  refine ce_icmp_ltI (p := (x).toInt) (q := (lo).toInt) (tgt := 10) dX7_rangeFault_2 (by decide) rfl rfl (fun c_2 => ?_) (fun c_2 => ?_)
  · refine ce_iconst (v := nI (2)) dX7_rangeFault_10 (by decide) ?_
    refine ce_goto (tgt := 15) dX7_rangeFault_11 (by decide) ?_
    refine ce_iret dX7_rangeFault_15 rfl rfl (by decide) (by decide) ?_
    exact ⟨congrArg (fun z => some (Value.int z)) (congrArg nI (show 2 = _ by unfold kx_ran; (repeat' split) <;> first | rfl | (exfalso; omega))), rfl, rfl⟩
  · refine ce_iload_n dX7_rangeFault_5 rfl ?_
    refine ce_iload_n dX7_rangeFault_6 rfl ?_
    refine ce_icmp_leI (p := (x).toInt) (q := (hi).toInt) (tgt := 14) dX7_rangeFault_7 (by decide) rfl rfl (fun c_7 => ?_) (fun c_7 => ?_)
    · refine ce_iconst (v := nI (0)) dX7_rangeFault_14 (by decide) ?_
      refine ce_iret dX7_rangeFault_15 rfl rfl (by decide) (by decide) ?_
      exact ⟨congrArg (fun z => some (Value.int z)) (congrArg nI (show 0 = _ by unfold kx_ran; (repeat' split) <;> first | rfl | (exfalso; omega))), rfl, rfl⟩
    · refine ce_iconst (v := nI (2)) dX7_rangeFault_10 (by decide) ?_
      refine ce_goto (tgt := 15) dX7_rangeFault_11 (by decide) ?_
      refine ce_iret dX7_rangeFault_15 rfl rfl (by decide) (by decide) ?_
      exact ⟨congrArg (fun z => some (Value.int z)) (congrArg nI (show 2 = _ by unfold kx_ran; (repeat' split) <;> first | rfl | (exfalso; omega))), rfl, rfl⟩
set_option maxHeartbeats 2000000 in
set_option maxRecDepth 20000 in
theorem m_X7_isSlot {σ : ce_S} {g : ce_D} (x : Int32) : ce_CT (ce_r 0) mX7_isSlot [.int (x)] σ g (ce_pv (if ce_in x 2 then 1 else 0) σ g) ce_no := by
  refine ce_enter (by decide) rfl (Nat.le_of_ble_eq_true rfl) (L := [some (.int (x))]) rfl ?_
  refine ce_iload_n dX7_isSlot_0 rfl ?_
  refine ce_if_ltI (tgt := 13) dX7_isSlot_1 (by decide) (p := (x).toInt) rfl (fun c_1 => ?_) (fun c_1 => ?_)
  · refine ce_iconst (v := nI (0)) dX7_isSlot_13 (by decide) ?_
    refine ce_iret dX7_isSlot_14 rfl (by first | rfl | decide | assumption) (by decide) (by decide) ?_
    exact ⟨congrArg (fun z => some (Value.int z)) ((if_neg (by unfold ce_in; omega)).symm), rfl, rfl⟩
  · refine ce_iload_n dX7_isSlot_4 rfl ?_
    refine ce_iconst (v := nI (2)) dX7_isSlot_5 (by decide) ?_
    refine ce_icmp_geI (p := (x).toInt) (q := ((2 : Nat) : Int)) (tgt := 13) dX7_isSlot_6 (by decide) rfl (nI_toInt (by omega)) (fun c_6 => ?_) (fun c_6 => ?_)
    · refine ce_iconst (v := nI (0)) dX7_isSlot_13 (by decide) ?_
      refine ce_iret dX7_isSlot_14 rfl (by first | rfl | decide | assumption) (by decide) (by decide) ?_
      exact ⟨congrArg (fun z => some (Value.int z)) ((if_neg (by unfold ce_in; omega)).symm), rfl, rfl⟩
    · refine ce_iconst (v := nI (1)) dX7_isSlot_9 (by decide) ?_
      refine ce_goto (tgt := 14) dX7_isSlot_10 (by decide) ?_
      refine ce_iret dX7_isSlot_14 rfl (by first | rfl | decide | assumption) (by decide) (by decide) ?_
      exact ⟨congrArg (fun z => some (Value.int z)) ((if_pos (by unfold ce_in; omega)).symm), rfl, rfl⟩
set_option maxHeartbeats 2000000 in
set_option maxRecDepth 20000 in
theorem m_X7_groupAt0 {σ : ce_S} {g : ce_D} (X : Nat) (hX : X < 2 ^ 63) : ce_CT (ce_r 0) mX7_groupAt [.long (lN X), .int (nI (0))] σ g (ce_pv (nI (X % 100000)) σ g) ce_no := by
  refine ce_enter (by decide) rfl (Nat.le_of_ble_eq_true rfl) (L := [some (.long (lN X)), none, some (.int (nI (0))), none, none, none]) rfl ?_
  refine ce_lload_n dX7_groupAt_0 rfl ?_
  refine ce_lstore_n dX7_groupAt_1 (Nat.le_of_ble_eq_true rfl) rfl ?_
  refine ce_iconst (v := nI (0)) dX7_groupAt_2 (by decide) ?_
  refine ce_istore dX7_groupAt_3 (Nat.le_of_ble_eq_true rfl) rfl ?_
  refine ce_iload dX7_groupAt_5 rfl ?_
  refine ce_iload_n dX7_groupAt_7 rfl ?_
  refine ce_icmp_geN (tgt := 23) dX7_groupAt_8 (by decide) rfl rfl (by omega) (by omega) (fun c_8 => ?_) (fun c_8 => ?_)
  · refine ce_lload_n dX7_groupAt_23 rfl ?_
    refine ce_ldc2 dX7_groupAt_24 kRX7_281 ?_
    refine ce_lrem (z := lN (X % 100000)) dX7_groupAt_27 (by decide) (pk_lRem (by omega) (by decide) (by decide)) ?_
    refine ce_l2i (v := nI (X % 100000)) dX7_groupAt_28 (lN_i _) ?_
    refine ce_iret dX7_groupAt_29 rfl rfl (by decide) (by decide) ?_
    exact ⟨rfl, rfl, rfl⟩
  · omega
set_option maxHeartbeats 2000000 in
set_option maxRecDepth 20000 in
theorem m_X7_groupAt1 {σ : ce_S} {g : ce_D} (X : Nat) (hX : X < 2 ^ 63) : ce_CT (ce_r 0) mX7_groupAt [.long (lN X), .int (nI (1))] σ g (ce_pv (nI (X / 100000 % 100000)) σ g) ce_no := by
  refine ce_enter (by decide) rfl (Nat.le_of_ble_eq_true rfl) (L := [some (.long (lN X)), none, some (.int (nI (1))), none, none, none]) rfl ?_
  refine ce_lload_n dX7_groupAt_0 rfl ?_
  refine ce_lstore_n dX7_groupAt_1 (Nat.le_of_ble_eq_true rfl) rfl ?_
  refine ce_iconst (v := nI (0)) dX7_groupAt_2 (by decide) ?_
  refine ce_istore dX7_groupAt_3 (Nat.le_of_ble_eq_true rfl) rfl ?_
  refine ce_iload dX7_groupAt_5 rfl ?_
  refine ce_iload_n dX7_groupAt_7 rfl ?_
  refine ce_icmp_geN (tgt := 23) dX7_groupAt_8 (by decide) rfl rfl (by omega) (by omega) (fun c_8 => ?_) (fun c_8 => ?_)
  · omega
  · refine ce_lload_n dX7_groupAt_11 rfl ?_
    refine ce_ldc2 dX7_groupAt_12 kRX7_281 ?_
    refine ce_ldiv (z := lN (X / 100000)) dX7_groupAt_15 (by decide) (pk_lDiv (by omega) (by decide) (by decide)) ?_
    refine ce_lstore_n dX7_groupAt_16 (Nat.le_of_ble_eq_true rfl) rfl ?_
    refine ce_iinc (v := nI (1)) dX7_groupAt_17 rfl (ce_inc1 _) (Nat.le_of_ble_eq_true rfl) rfl ?_
    refine ce_goto (tgt := 5) dX7_groupAt_20 (by decide) ?_
    refine ce_iload dX7_groupAt_5 rfl ?_
    refine ce_iload_n dX7_groupAt_7 rfl ?_
    refine ce_icmp_geN (tgt := 23) dX7_groupAt_8 (by decide) rfl rfl (by omega) (by omega) (fun c_8 => ?_) (fun c_8 => ?_)
    · refine ce_lload_n dX7_groupAt_23 rfl ?_
      refine ce_ldc2 dX7_groupAt_24 kRX7_281 ?_
      refine ce_lrem (z := lN (X / 100000 % 100000)) dX7_groupAt_27 (by decide) (pk_lRem (by omega) (by decide) (by decide)) ?_
      refine ce_l2i (v := nI (X / 100000 % 100000)) dX7_groupAt_28 (lN_i _) ?_
      refine ce_iret dX7_groupAt_29 rfl rfl (by decide) (by decide) ?_
      exact ⟨rfl, rfl, rfl⟩
    · omega
set_option maxHeartbeats 2000000 in
set_option maxRecDepth 20000 in
theorem m_X7_groupAt2 {σ : ce_S} {g : ce_D} (X : Nat) (hX : X < 2 ^ 63) : ce_CT (ce_r 0) mX7_groupAt [.long (lN X), .int (nI (2))] σ g (ce_pv (nI (X / 100000 / 100000 % 100000)) σ g) ce_no := by
  refine ce_enter (by decide) rfl (Nat.le_of_ble_eq_true rfl) (L := [some (.long (lN X)), none, some (.int (nI (2))), none, none, none]) rfl ?_
  refine ce_lload_n dX7_groupAt_0 rfl ?_
  refine ce_lstore_n dX7_groupAt_1 (Nat.le_of_ble_eq_true rfl) rfl ?_
  refine ce_iconst (v := nI (0)) dX7_groupAt_2 (by decide) ?_
  refine ce_istore dX7_groupAt_3 (Nat.le_of_ble_eq_true rfl) rfl ?_
  refine ce_iload dX7_groupAt_5 rfl ?_
  refine ce_iload_n dX7_groupAt_7 rfl ?_
  refine ce_icmp_geN (tgt := 23) dX7_groupAt_8 (by decide) rfl rfl (by omega) (by omega) (fun c_8 => ?_) (fun c_8 => ?_)
  · omega
  · refine ce_lload_n dX7_groupAt_11 rfl ?_
    refine ce_ldc2 dX7_groupAt_12 kRX7_281 ?_
    refine ce_ldiv (z := lN (X / 100000)) dX7_groupAt_15 (by decide) (pk_lDiv (by omega) (by decide) (by decide)) ?_
    refine ce_lstore_n dX7_groupAt_16 (Nat.le_of_ble_eq_true rfl) rfl ?_
    refine ce_iinc (v := nI (1)) dX7_groupAt_17 rfl (ce_inc1 _) (Nat.le_of_ble_eq_true rfl) rfl ?_
    refine ce_goto (tgt := 5) dX7_groupAt_20 (by decide) ?_
    refine ce_iload dX7_groupAt_5 rfl ?_
    refine ce_iload_n dX7_groupAt_7 rfl ?_
    refine ce_icmp_geN (tgt := 23) dX7_groupAt_8 (by decide) rfl rfl (by omega) (by omega) (fun c_8 => ?_) (fun c_8 => ?_)
    · omega
    · refine ce_lload_n dX7_groupAt_11 rfl ?_
      refine ce_ldc2 dX7_groupAt_12 kRX7_281 ?_
      refine ce_ldiv (z := lN (X / 100000 / 100000)) dX7_groupAt_15 (by decide) (pk_lDiv (by omega) (by decide) (by decide)) ?_
      refine ce_lstore_n dX7_groupAt_16 (Nat.le_of_ble_eq_true rfl) rfl ?_
      refine ce_iinc (v := nI (2)) dX7_groupAt_17 rfl (ce_inc1 _) (Nat.le_of_ble_eq_true rfl) rfl ?_
      refine ce_goto (tgt := 5) dX7_groupAt_20 (by decide) ?_
      refine ce_iload dX7_groupAt_5 rfl ?_
      refine ce_iload_n dX7_groupAt_7 rfl ?_
      refine ce_icmp_geN (tgt := 23) dX7_groupAt_8 (by decide) rfl rfl (by omega) (by omega) (fun c_8 => ?_) (fun c_8 => ?_)
      · refine ce_lload_n dX7_groupAt_23 rfl ?_
        refine ce_ldc2 dX7_groupAt_24 kRX7_281 ?_
        refine ce_lrem (z := lN (X / 100000 / 100000 % 100000)) dX7_groupAt_27 (by decide) (pk_lRem (by omega) (by decide) (by decide)) ?_
        refine ce_l2i (v := nI (X / 100000 / 100000 % 100000)) dX7_groupAt_28 (lN_i _) ?_
        refine ce_iret dX7_groupAt_29 rfl rfl (by decide) (by decide) ?_
        exact ⟨rfl, rfl, rfl⟩
      · omega
def kx_scr (x : Int32) (t : Int64) : Nat := if 1 ≤ x.toInt ∧ x.toInt ≤ 3 ∧ 0 ≤ t.toInt ∧ t.toInt < 100000 ^ ce_n x then 0 else 2
theorem kx_lt {t : Int64} {k : Nat} (hk : k < 2 ^ 63) : t < lN k ↔ t.toInt < (k : Int) := by
  rw [Int64.lt_iff_toInt_lt, pk_lT hk]
theorem kx_neg {t : Int64} : t < 0 ↔ t.toInt < 0 := by
  rw [Int64.lt_iff_toInt_lt]
  rfl
set_option maxHeartbeats 2000000 in
set_option maxRecDepth 20000 in
theorem m_X7_scriptFault {σ : ce_S} {g : ce_D} (x : Int32) (t : Int64) : ce_CT (ce_r 0) mX7_scriptFault [.int (x), .long (t)] σ g (ce_pv (nI (kx_scr x t)) σ g) ce_no := by
  refine ce_enter (by decide) rfl (Nat.le_of_ble_eq_true rfl) (L := [some (.int (x)), some (.long (t)), none, none, none, none]) rfl ?_
  refine ce_iload_n dX7_scriptFault_0 rfl ?_
  refine ce_iconst (v := nI (1)) dX7_scriptFault_1 (by decide) ?_
  refine ce_icmp_ltI (p := (x).toInt) (q := ((1 : Nat) : Int)) (tgt := 16) dX7_scriptFault_2 (by decide) rfl (nI_toInt (by omega)) (fun c_2 => ?_) (fun c_2 => ?_)
  · refine ce_iconst (v := nI (2)) dX7_scriptFault_16 (by decide) ?_
    refine ce_iret dX7_scriptFault_17 rfl rfl (by decide) (by decide) ?_
    exact ⟨congrArg (fun z => some (Value.int z)) (congrArg nI (show 2 = _ by unfold kx_scr; rw [if_neg]; rintro ⟨h1, h2, h3, _⟩; omega)), rfl, rfl⟩
  · refine ce_iload_n dX7_scriptFault_5 rfl ?_
    refine ce_iconst (v := nI (3)) dX7_scriptFault_6 (by decide) ?_
    refine ce_icmp_gtI (p := (x).toInt) (q := ((3 : Nat) : Int)) (tgt := 16) dX7_scriptFault_7 (by decide) rfl (nI_toInt (by omega)) (fun c_7 => ?_) (fun c_7 => ?_)
    · refine ce_iconst (v := nI (2)) dX7_scriptFault_16 (by decide) ?_
      refine ce_iret dX7_scriptFault_17 rfl rfl (by decide) (by decide) ?_
      exact ⟨congrArg (fun z => some (Value.int z)) (congrArg nI (show 2 = _ by unfold kx_scr; rw [if_neg]; rintro ⟨h1, h2, h3, _⟩; omega)), rfl, rfl⟩
    · refine ce_lload_n dX7_scriptFault_10 rfl ?_
      refine ce_lconst (v := 0) dX7_scriptFault_11 (by decide) ?_
      refine ce_lcmp (z := lg_cmp (t) (0)) dX7_scriptFault_12 rfl ?_
      refine ce_if_geC (tgt := 18) dX7_scriptFault_13 (by decide) rfl (fun c_13 => ?_) (fun c_13 => ?_)
      · have c13 : 0 ≤ t.toInt := by
          have := mt kx_neg.mpr c_13
          omega
        have hx : x.toInt = 1 ∨ x.toInt = 2 ∨ x.toInt = 3 := by omega
        rcases hx with h | h | h
        · have hn : ce_n x = 1 := by unfold ce_n; rw [h]; rfl
          have hx : x = nI 1 := Int32.toInt_inj.mp (h.trans (by decide))
          rw [hx]
          refine ce_lconst (v := 1) dX7_scriptFault_18 (by decide) ?_
          refine ce_lstore_n dX7_scriptFault_19 (Nat.le_of_ble_eq_true rfl) rfl ?_
          refine ce_iconst (v := nI (0)) dX7_scriptFault_20 (by decide) ?_
          refine ce_istore dX7_scriptFault_21 (Nat.le_of_ble_eq_true rfl) rfl ?_
          refine ce_iload dX7_scriptFault_23 rfl ?_
          refine ce_iload_n dX7_scriptFault_25 rfl ?_
          refine ce_icmp_geN (tgt := 41) dX7_scriptFault_26 (by decide) rfl rfl (by omega) (by omega) (fun c_26 => ?_) (fun c_26 => ?_)
          · omega
          · refine ce_lload_n dX7_scriptFault_29 rfl ?_
            refine ce_ldc2 dX7_scriptFault_30 kRX7_281 ?_
            refine ce_lmul (z := lN (100000 ^ 1)) dX7_scriptFault_33 rfl ?_
            refine ce_lstore_n dX7_scriptFault_34 (Nat.le_of_ble_eq_true rfl) rfl ?_
            refine ce_iinc (v := nI (1)) dX7_scriptFault_35 rfl (ce_inc1 _) (Nat.le_of_ble_eq_true rfl) rfl ?_
            refine ce_goto (tgt := 23) dX7_scriptFault_38 (by decide) ?_
            refine ce_iload dX7_scriptFault_23 rfl ?_
            refine ce_iload_n dX7_scriptFault_25 rfl ?_
            refine ce_icmp_geN (tgt := 41) dX7_scriptFault_26 (by decide) rfl rfl (by omega) (by omega) (fun c_26 => ?_) (fun c_26 => ?_)
            · refine ce_lload_n dX7_scriptFault_41 rfl ?_
              refine ce_lload_n dX7_scriptFault_42 rfl ?_
              refine ce_lcmp (z := lg_cmp (t) (lN (100000 ^ 1))) dX7_scriptFault_43 rfl ?_
              refine ce_if_geC (tgt := 51) dX7_scriptFault_44 (by decide) rfl (fun c_44 => ?_) (fun c_44 => ?_)
              · refine ce_iconst (v := nI (2)) dX7_scriptFault_51 (by decide) ?_
                refine ce_iret dX7_scriptFault_52 rfl rfl (by decide) (by decide) ?_
                have e : t < lN (100000 ^ 1) ↔ t.toInt < ((100000 ^ 1 : Nat) : Int) := kx_lt (by decide)
                exact ⟨congrArg (fun z => some (Value.int z)) (congrArg nI (show 2 = _ by unfold kx_scr; rw [← hx, hn]; rw [if_neg]; rintro ⟨_, _, _, h⟩; exact c_44 (e.mpr (by simpa using h)))), rfl, rfl⟩
              · refine ce_iconst (v := nI (0)) dX7_scriptFault_47 (by decide) ?_
                refine ce_goto (tgt := 52) dX7_scriptFault_48 (by decide) ?_
                refine ce_iret dX7_scriptFault_52 rfl rfl (by decide) (by decide) ?_
                have e : t < lN (100000 ^ 1) ↔ t.toInt < ((100000 ^ 1 : Nat) : Int) := kx_lt (by decide)
                exact ⟨congrArg (fun z => some (Value.int z)) (congrArg nI (show 0 = _ by unfold kx_scr; rw [← hx, hn]; rw [if_pos]; exact ⟨by omega, by omega, c13, by simpa using e.mp c_44⟩)), rfl, rfl⟩
            · omega
        · have hn : ce_n x = 2 := by unfold ce_n; rw [h]; rfl
          have hx : x = nI 2 := Int32.toInt_inj.mp (h.trans (by decide))
          rw [hx]
          refine ce_lconst (v := 1) dX7_scriptFault_18 (by decide) ?_
          refine ce_lstore_n dX7_scriptFault_19 (Nat.le_of_ble_eq_true rfl) rfl ?_
          refine ce_iconst (v := nI (0)) dX7_scriptFault_20 (by decide) ?_
          refine ce_istore dX7_scriptFault_21 (Nat.le_of_ble_eq_true rfl) rfl ?_
          refine ce_iload dX7_scriptFault_23 rfl ?_
          refine ce_iload_n dX7_scriptFault_25 rfl ?_
          refine ce_icmp_geN (tgt := 41) dX7_scriptFault_26 (by decide) rfl rfl (by omega) (by omega) (fun c_26 => ?_) (fun c_26 => ?_)
          · omega
          · refine ce_lload_n dX7_scriptFault_29 rfl ?_
            refine ce_ldc2 dX7_scriptFault_30 kRX7_281 ?_
            refine ce_lmul (z := lN (100000 ^ 1)) dX7_scriptFault_33 rfl ?_
            refine ce_lstore_n dX7_scriptFault_34 (Nat.le_of_ble_eq_true rfl) rfl ?_
            refine ce_iinc (v := nI (1)) dX7_scriptFault_35 rfl (ce_inc1 _) (Nat.le_of_ble_eq_true rfl) rfl ?_
            refine ce_goto (tgt := 23) dX7_scriptFault_38 (by decide) ?_
            refine ce_iload dX7_scriptFault_23 rfl ?_
            refine ce_iload_n dX7_scriptFault_25 rfl ?_
            refine ce_icmp_geN (tgt := 41) dX7_scriptFault_26 (by decide) rfl rfl (by omega) (by omega) (fun c_26 => ?_) (fun c_26 => ?_)
            · omega
            · refine ce_lload_n dX7_scriptFault_29 rfl ?_
              refine ce_ldc2 dX7_scriptFault_30 kRX7_281 ?_
              refine ce_lmul (z := lN (100000 ^ 2)) dX7_scriptFault_33 rfl ?_
              refine ce_lstore_n dX7_scriptFault_34 (Nat.le_of_ble_eq_true rfl) rfl ?_
              refine ce_iinc (v := nI (2)) dX7_scriptFault_35 rfl (ce_inc1 _) (Nat.le_of_ble_eq_true rfl) rfl ?_
              refine ce_goto (tgt := 23) dX7_scriptFault_38 (by decide) ?_
              refine ce_iload dX7_scriptFault_23 rfl ?_
              refine ce_iload_n dX7_scriptFault_25 rfl ?_
              refine ce_icmp_geN (tgt := 41) dX7_scriptFault_26 (by decide) rfl rfl (by omega) (by omega) (fun c_26 => ?_) (fun c_26 => ?_)
              · refine ce_lload_n dX7_scriptFault_41 rfl ?_
                refine ce_lload_n dX7_scriptFault_42 rfl ?_
                refine ce_lcmp (z := lg_cmp (t) (lN (100000 ^ 2))) dX7_scriptFault_43 rfl ?_
                refine ce_if_geC (tgt := 51) dX7_scriptFault_44 (by decide) rfl (fun c_44 => ?_) (fun c_44 => ?_)
                · refine ce_iconst (v := nI (2)) dX7_scriptFault_51 (by decide) ?_
                  refine ce_iret dX7_scriptFault_52 rfl rfl (by decide) (by decide) ?_
                  have e : t < lN (100000 ^ 2) ↔ t.toInt < ((100000 ^ 2 : Nat) : Int) := kx_lt (by decide)
                  exact ⟨congrArg (fun z => some (Value.int z)) (congrArg nI (show 2 = _ by unfold kx_scr; rw [← hx, hn]; rw [if_neg]; rintro ⟨_, _, _, h⟩; exact c_44 (e.mpr (by simpa using h)))), rfl, rfl⟩
                · refine ce_iconst (v := nI (0)) dX7_scriptFault_47 (by decide) ?_
                  refine ce_goto (tgt := 52) dX7_scriptFault_48 (by decide) ?_
                  refine ce_iret dX7_scriptFault_52 rfl rfl (by decide) (by decide) ?_
                  have e : t < lN (100000 ^ 2) ↔ t.toInt < ((100000 ^ 2 : Nat) : Int) := kx_lt (by decide)
                  exact ⟨congrArg (fun z => some (Value.int z)) (congrArg nI (show 0 = _ by unfold kx_scr; rw [← hx, hn]; rw [if_pos]; exact ⟨by omega, by omega, c13, by simpa using e.mp c_44⟩)), rfl, rfl⟩
              · omega
        · have hn : ce_n x = 3 := by unfold ce_n; rw [h]; rfl
          have hx : x = nI 3 := Int32.toInt_inj.mp (h.trans (by decide))
          rw [hx]
          refine ce_lconst (v := 1) dX7_scriptFault_18 (by decide) ?_
          refine ce_lstore_n dX7_scriptFault_19 (Nat.le_of_ble_eq_true rfl) rfl ?_
          refine ce_iconst (v := nI (0)) dX7_scriptFault_20 (by decide) ?_
          refine ce_istore dX7_scriptFault_21 (Nat.le_of_ble_eq_true rfl) rfl ?_
          refine ce_iload dX7_scriptFault_23 rfl ?_
          refine ce_iload_n dX7_scriptFault_25 rfl ?_
          refine ce_icmp_geN (tgt := 41) dX7_scriptFault_26 (by decide) rfl rfl (by omega) (by omega) (fun c_26 => ?_) (fun c_26 => ?_)
          · omega
          · refine ce_lload_n dX7_scriptFault_29 rfl ?_
            refine ce_ldc2 dX7_scriptFault_30 kRX7_281 ?_
            refine ce_lmul (z := lN (100000 ^ 1)) dX7_scriptFault_33 rfl ?_
            refine ce_lstore_n dX7_scriptFault_34 (Nat.le_of_ble_eq_true rfl) rfl ?_
            refine ce_iinc (v := nI (1)) dX7_scriptFault_35 rfl (ce_inc1 _) (Nat.le_of_ble_eq_true rfl) rfl ?_
            refine ce_goto (tgt := 23) dX7_scriptFault_38 (by decide) ?_
            refine ce_iload dX7_scriptFault_23 rfl ?_
            refine ce_iload_n dX7_scriptFault_25 rfl ?_
            refine ce_icmp_geN (tgt := 41) dX7_scriptFault_26 (by decide) rfl rfl (by omega) (by omega) (fun c_26 => ?_) (fun c_26 => ?_)
            · omega
            · refine ce_lload_n dX7_scriptFault_29 rfl ?_
              refine ce_ldc2 dX7_scriptFault_30 kRX7_281 ?_
              refine ce_lmul (z := lN (100000 ^ 2)) dX7_scriptFault_33 rfl ?_
              refine ce_lstore_n dX7_scriptFault_34 (Nat.le_of_ble_eq_true rfl) rfl ?_
              refine ce_iinc (v := nI (2)) dX7_scriptFault_35 rfl (ce_inc1 _) (Nat.le_of_ble_eq_true rfl) rfl ?_
              refine ce_goto (tgt := 23) dX7_scriptFault_38 (by decide) ?_
              refine ce_iload dX7_scriptFault_23 rfl ?_
              refine ce_iload_n dX7_scriptFault_25 rfl ?_
              refine ce_icmp_geN (tgt := 41) dX7_scriptFault_26 (by decide) rfl rfl (by omega) (by omega) (fun c_26 => ?_) (fun c_26 => ?_)
              · omega
              · refine ce_lload_n dX7_scriptFault_29 rfl ?_
                refine ce_ldc2 dX7_scriptFault_30 kRX7_281 ?_
                refine ce_lmul (z := lN (100000 ^ 3)) dX7_scriptFault_33 rfl ?_
                refine ce_lstore_n dX7_scriptFault_34 (Nat.le_of_ble_eq_true rfl) rfl ?_
                refine ce_iinc (v := nI (3)) dX7_scriptFault_35 rfl (ce_inc1 _) (Nat.le_of_ble_eq_true rfl) rfl ?_
                refine ce_goto (tgt := 23) dX7_scriptFault_38 (by decide) ?_
                refine ce_iload dX7_scriptFault_23 rfl ?_
                refine ce_iload_n dX7_scriptFault_25 rfl ?_
                refine ce_icmp_geN (tgt := 41) dX7_scriptFault_26 (by decide) rfl rfl (by omega) (by omega) (fun c_26 => ?_) (fun c_26 => ?_)
                · refine ce_lload_n dX7_scriptFault_41 rfl ?_
                  refine ce_lload_n dX7_scriptFault_42 rfl ?_
                  refine ce_lcmp (z := lg_cmp (t) (lN (100000 ^ 3))) dX7_scriptFault_43 rfl ?_
                  refine ce_if_geC (tgt := 51) dX7_scriptFault_44 (by decide) rfl (fun c_44 => ?_) (fun c_44 => ?_)
                  · refine ce_iconst (v := nI (2)) dX7_scriptFault_51 (by decide) ?_
                    refine ce_iret dX7_scriptFault_52 rfl rfl (by decide) (by decide) ?_
                    have e : t < lN (100000 ^ 3) ↔ t.toInt < ((100000 ^ 3 : Nat) : Int) := kx_lt (by decide)
                    exact ⟨congrArg (fun z => some (Value.int z)) (congrArg nI (show 2 = _ by unfold kx_scr; rw [← hx, hn]; rw [if_neg]; rintro ⟨_, _, _, h⟩; exact c_44 (e.mpr (by simpa using h)))), rfl, rfl⟩
                  · refine ce_iconst (v := nI (0)) dX7_scriptFault_47 (by decide) ?_
                    refine ce_goto (tgt := 52) dX7_scriptFault_48 (by decide) ?_
                    refine ce_iret dX7_scriptFault_52 rfl rfl (by decide) (by decide) ?_
                    have e : t < lN (100000 ^ 3) ↔ t.toInt < ((100000 ^ 3 : Nat) : Int) := kx_lt (by decide)
                    exact ⟨congrArg (fun z => some (Value.int z)) (congrArg nI (show 0 = _ by unfold kx_scr; rw [← hx, hn]; rw [if_pos]; exact ⟨by omega, by omega, c13, by simpa using e.mp c_44⟩)), rfl, rfl⟩
                · omega
      · refine ce_iconst (v := nI (2)) dX7_scriptFault_16 (by decide) ?_
        refine ce_iret dX7_scriptFault_17 rfl rfl (by decide) (by decide) ?_
        exact ⟨congrArg (fun z => some (Value.int z)) (congrArg nI (show 2 = _ by unfold kx_scr; rw [if_neg]; rintro ⟨h1, h2, h3, _⟩; have := kx_neg.mp c_13; omega)), rfl, rfl⟩
/-- the room of a method that may throw, d calls above the throw -/
def ce_rx (d : Nat) : Room := { frames := 6 + d, cells := 1, slots := 6, locals := 96 + 40 * d }
def kx_E (f : Nat) : String := if f = 1 then "java/lang/IndexOutOfBoundsException" else if f = 2 then "java/lang/IllegalArgumentException" else "java/lang/IllegalStateException"
/-- a fault was thrown: only the heap's end moved -/
def kx_X (f : Nat) (σ : ce_S) (g : ce_D) : String → ce_S → ce_D → Prop := fun E σ1 g1 => E = kx_E f ∧ g1 = g ∧ ∃ n, σ.1 ≤ n ∧ σ1 = (n, σ.2)
set_option maxHeartbeats 2000000 in
set_option maxRecDepth 20000 in
theorem m_X7_check1 {σ : ce_S} {g : ce_D} : ce_CT (ce_rx 1) mX7_check [.int (nI (1))] σ g (fun _ _ _ => False) (kx_X 1 σ g) := by
  refine ce_enter (by decide) rfl (Nat.le_of_ble_eq_true rfl) (L := [some (.int (nI (1)))]) rfl ?_
  refine ce_iload_n dX7_check_0 rfl ?_
  refine ce_iconst (v := nI (1)) dX7_check_1 (by decide) ?_
  refine ce_icmp_neN (tgt := 16) dX7_check_2 (by decide) rfl rfl (by omega) (by omega) (fun c_2 => ?_) (fun c_2 => ?_)
  · omega
  · exact ce_throwW (ik := 264) (is := 266) (ic := 268) (cls := "java/lang/IndexOutOfBoundsException") (text := "no such member, wine, bin or save slot") (names := ["java/lang/RuntimeException", "java/lang/Exception"]) rfl (by decide) (by decide) kRX7_264 wn_IndexOutOfBoundsException (by decide) (by decide +kernel) (by decide +kernel) dX7_check_5 dX7_check_8 dX7_check_9 dX7_check_12 dX7_check_15 (by decide) (by decide) (by decide) (by decide) (fun σ1 g1 h => ⟨h.1, h.2.1, h.2.2⟩)
set_option maxHeartbeats 2000000 in
set_option maxRecDepth 20000 in
theorem m_X7_check2 {σ : ce_S} {g : ce_D} : ce_CT (ce_rx 1) mX7_check [.int (nI (2))] σ g (fun _ _ _ => False) (kx_X 2 σ g) := by
  refine ce_enter (by decide) rfl (Nat.le_of_ble_eq_true rfl) (L := [some (.int (nI (2)))]) rfl ?_
  refine ce_iload_n dX7_check_0 rfl ?_
  refine ce_iconst (v := nI (1)) dX7_check_1 (by decide) ?_
  refine ce_icmp_neN (tgt := 16) dX7_check_2 (by decide) rfl rfl (by omega) (by omega) (fun c_2 => ?_) (fun c_2 => ?_)
  · refine ce_iload_n dX7_check_16 rfl ?_
    refine ce_iconst (v := nI (2)) dX7_check_17 (by decide) ?_
    refine ce_icmp_neN (tgt := 32) dX7_check_18 (by decide) rfl rfl (by omega) (by omega) (fun c_18 => ?_) (fun c_18 => ?_)
    · omega
    · exact ce_throwW (ik := 271) (is := 273) (ic := 275) (cls := "java/lang/IllegalArgumentException") (text := "an argument is out of its range") (names := ["java/lang/RuntimeException", "java/lang/Exception"]) rfl (by decide) (by decide) kRX7_271 wn_IllegalArgumentException (by decide) (by decide +kernel) (by decide +kernel) dX7_check_21 dX7_check_24 dX7_check_25 dX7_check_28 dX7_check_31 (by decide) (by decide) (by decide) (by decide) (fun σ1 g1 h => ⟨h.1, h.2.1, h.2.2⟩)
  · omega
set_option maxHeartbeats 2000000 in
set_option maxRecDepth 20000 in
theorem m_X7_check3 {σ : ce_S} {g : ce_D} : ce_CT (ce_rx 1) mX7_check [.int (nI (3))] σ g (fun _ _ _ => False) (kx_X 3 σ g) := by
  refine ce_enter (by decide) rfl (Nat.le_of_ble_eq_true rfl) (L := [some (.int (nI (3)))]) rfl ?_
  refine ce_iload_n dX7_check_0 rfl ?_
  refine ce_iconst (v := nI (1)) dX7_check_1 (by decide) ?_
  refine ce_icmp_neN (tgt := 16) dX7_check_2 (by decide) rfl rfl (by omega) (by omega) (fun c_2 => ?_) (fun c_2 => ?_)
  · refine ce_iload_n dX7_check_16 rfl ?_
    refine ce_iconst (v := nI (2)) dX7_check_17 (by decide) ?_
    refine ce_icmp_neN (tgt := 32) dX7_check_18 (by decide) rfl rfl (by omega) (by omega) (fun c_18 => ?_) (fun c_18 => ?_)
    · refine ce_iload_n dX7_check_32 rfl ?_
      refine ce_iconst (v := nI (3)) dX7_check_33 (by decide) ?_
      refine ce_icmp_neN (tgt := 48) dX7_check_34 (by decide) rfl rfl (by omega) (by omega) (fun c_34 => ?_) (fun c_34 => ?_)
      · omega
      · exact ce_throwW (ik := 276) (is := 278) (ic := 280) (cls := "java/lang/IllegalStateException") (text := "the present state does not allow this") (names := ["java/lang/RuntimeException", "java/lang/Exception"]) rfl (by decide) (by decide) kRX7_276 wn_IllegalStateException (by decide) (by decide +kernel) (by decide +kernel) dX7_check_37 dX7_check_40 dX7_check_41 dX7_check_44 dX7_check_47 (by decide) (by decide) (by decide) (by decide) (fun σ1 g1 h => ⟨h.1, h.2.1, h.2.2⟩)
    · omega
  · omega
set_option maxHeartbeats 2000000 in
set_option maxRecDepth 20000 in
theorem m_X7_check0 {σ : ce_S} {g : ce_D} : ce_CT (ce_r 0) mX7_check [.int (nI (0))] σ g (ce_qv σ g) ce_no := by
  refine ce_enter (by decide) rfl (Nat.le_of_ble_eq_true rfl) (L := [some (.int (nI (0)))]) rfl ?_
  refine ce_iload_n dX7_check_0 rfl ?_
  refine ce_iconst (v := nI (1)) dX7_check_1 (by decide) ?_
  refine ce_icmp_neN (tgt := 16) dX7_check_2 (by decide) rfl rfl (by omega) (by omega) (fun c_2 => ?_) (fun c_2 => ?_)
  · refine ce_iload_n dX7_check_16 rfl ?_
    refine ce_iconst (v := nI (2)) dX7_check_17 (by decide) ?_
    refine ce_icmp_neN (tgt := 32) dX7_check_18 (by decide) rfl rfl (by omega) (by omega) (fun c_18 => ?_) (fun c_18 => ?_)
    · refine ce_iload_n dX7_check_32 rfl ?_
      refine ce_iconst (v := nI (3)) dX7_check_33 (by decide) ?_
      refine ce_icmp_neN (tgt := 48) dX7_check_34 (by decide) rfl rfl (by omega) (by omega) (fun c_34 => ?_) (fun c_34 => ?_)
      · exact ce_vret dX7_check_48 rfl (by decide) (by decide) ⟨rfl, rfl, rfl⟩
      · omega
    · omega
  · omega
theorem m_X7_checkX {σ : ce_S} {g : ce_D} (f : Nat) (hf : f ≠ 0) (h3 : f ≤ 3) : ce_CT (ce_rx 1) mX7_check [.int (nI f)] σ g (fun _ _ _ => False) (kx_X f σ g) := by
  have h : f = 1 ∨ f = 2 ∨ f = 3 := by omega
  rcases h with rfl | rfl | rfl
  · exact m_X7_check1
  · exact m_X7_check2
  · exact m_X7_check3
