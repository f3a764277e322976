set_option maxHeartbeats 2000000 in
set_option maxRecDepth 20000 in
theorem m_X4_orders {σ : ce_S} {g : ce_D} (r : Nat) (K : ce_V) (O : Nat → Int32) (hL : ce_LR σ r) (hr : ce_rC g (r + 1) K O) (hk : kv_cl K) (m w n : Nat) (hm : m < 2 ^ 31) (hw : w < 2 ^ 31) (hn : n < 2 ^ 31) (f : Nat) (hf : kv_ordF K (nI (m)) (nI (w)) (nI (n)) = f) (hf3 : f ≤ 3) : ce_CT (ce_r 4) mX4_orders [.ref (r), .int (nI (m)), .int (nI (w)), .int (nI (n))] σ g (ce_rv σ (fun x g' => x = (if f = 0 then 1 else 0) ∧ ce_rC g' (r + 1) (ks_ite f (kv_ord K m w n) K) (ks_ite f (O) O) ∧ ce_fr (r + 1) (r + 1 + 20) g g')) ce_no := by
  refine ce_enter (by decide) rfl (Nat.le_of_ble_eq_true rfl) (L := [some (.ref (r)), some (.int (nI (m))), some (.int (nI (w))), some (.int (nI (n))), none]) rfl ?_
  refine ce_aload_n dX4_orders_0 rfl ?_
  refine ce_getR dX4_orders_1 fRX4_12 hL.1 hL.2.1 ?_
  refine ce_iload_n dX4_orders_4 rfl ?_
  refine ce_iload_n dX4_orders_5 rfl ?_
  refine ce_iload_n dX4_orders_6 rfl ?_
  refine ce_cVp dX4_orders_7 hX0_orderFault kRX4_77 (hf ▸ (m_X0_orderFault (r + 1) K O hL.2.2 hr hk (nI (m)) (nI (w)) (nI (n)))) rfl rfl (hL.2.2).1 rfl (by decide) (Nat.le_of_ble_eq_true rfl) ?_
  refine ce_if_neN (tgt := 17) dX4_orders_10 (by decide) rfl (by omega) (fun c_10 => ?_) (fun c_10 => ?_)
  · refine ce_iconst (v := nI (0)) dX4_orders_17 (by decide) ?_
    refine ce_istore dX4_orders_18 (Nat.le_of_ble_eq_true rfl) rfl ?_
    refine ce_iload dX4_orders_20 rfl ?_
    refine ce_if_eqN (tgt := 36) dX4_orders_22 (by decide) rfl (by omega) (fun c_22 => ?_) (fun c_22 => ?_)
    · refine ce_iload dX4_orders_36 rfl ?_
      refine ce_iret dX4_orders_38 rfl (by first | rfl | decide) (by decide) (by decide) ?_
      exact ⟨_, rfl, rfl, (if_neg c_10).symm, ce_rC_eq hr (ks_n c_10) (ks_n c_10), ce_fr.rf⟩
    · omega
  · refine ce_iconst (v := nI (1)) dX4_orders_13 (by decide) ?_
    refine ce_goto (tgt := 18) dX4_orders_14 (by decide) ?_
    refine ce_istore dX4_orders_18 (Nat.le_of_ble_eq_true rfl) rfl ?_
    refine ce_iload dX4_orders_20 rfl ?_
    refine ce_if_eqN (tgt := 36) dX4_orders_22 (by decide) rfl (by omega) (fun c_22 => ?_) (fun c_22 => ?_)
    · omega
    · have q0 := kv_ord0 (by omega) (by omega) (by omega) (hf.trans c_10)
      have hB := hk.i7
      have hM := hk.me
      have hW := hk.wi
      have hl := hk.le (m := m) (w := w) (by omega) (by omega)
      refine ce_aload_n dX4_orders_25 rfl ?_
      refine ce_getR dX4_orders_26 fRX4_12 hL.1 hL.2.1 ?_
      refine ce_iload_n dX4_orders_29 rfl ?_
      refine ce_iload_n dX4_orders_30 rfl ?_
      refine ce_iload_n dX4_orders_31 rfl ?_
      refine ce_cVr dX4_orders_32 hX0_changeOrder kRX4_81 (m_X0_changeOrder (r + 1) K O hL.2.2 hr hk (m) (w) (n) (by omega) (by omega)) rfl rfl (hL.2.2).1 rfl (by decide) (Nat.le_of_ble_eq_true rfl) (fun rcg1 cg1 hcg1 => ?_)
      refine ce_pop dX4_orders_35 rfl ?_
      refine ce_iload dX4_orders_36 rfl ?_
      refine ce_iret dX4_orders_38 rfl (by first | rfl | decide) (by decide) (by decide) ?_
      exact ⟨_, rfl, rfl, (if_pos c_10).symm, ce_rC_eq hcg1.2.1 (ks_y c_10) (ks_y c_10), hcg1.2.2⟩
set_option maxHeartbeats 2000000 in
set_option maxRecDepth 20000 in
theorem m_X4_allocates {σ : ce_S} {g : ce_D} (r : Nat) (K : ce_V) (O : Nat → Int32) (hL : ce_LR σ r) (hr : ce_rC g (r + 1) K O) (hk : kv_cl K) (w : Nat) (hw : w < 2 ^ 31) (f : Nat) (hf : kv_allF K (nI (w)) = f) (hf3 : f ≤ 3) : ce_CT (ce_r 4) mX4_allocates [.ref (r), .int (nI (w))] σ g (ce_rv σ (fun x g' => x = (if f = 0 then 1 else 0) ∧ ce_rC g' (r + 1) (ks_ite f (kv_all K w) K) (ks_ite f (ko_all K w O) O) ∧ ce_fr (r + 1) (r + 1 + 20) g g')) ce_no := by
  refine ce_enter (by decide) rfl (Nat.le_of_ble_eq_true rfl) (L := [some (.ref (r)), some (.int (nI (w))), none]) rfl ?_
  refine ce_aload_n dX4_allocates_0 rfl ?_
  refine ce_getR dX4_allocates_1 fRX4_12 hL.1 hL.2.1 ?_
  refine ce_iload_n dX4_allocates_4 rfl ?_
  refine ce_cVp dX4_allocates_5 hX0_allocationFault kRX4_84 (hf ▸ (m_X0_allocationFault (r + 1) K O hL.2.2 hr hk (nI (w)))) rfl rfl (hL.2.2).1 rfl (by decide) (Nat.le_of_ble_eq_true rfl) ?_
  refine ce_if_neN (tgt := 15) dX4_allocates_8 (by decide) rfl (by omega) (fun c_8 => ?_) (fun c_8 => ?_)
  · refine ce_iconst (v := nI (0)) dX4_allocates_15 (by decide) ?_
    refine ce_istore_n dX4_allocates_16 (Nat.le_of_ble_eq_true rfl) rfl ?_
    refine ce_iload_n dX4_allocates_17 rfl ?_
    refine ce_if_eqN (tgt := 30) dX4_allocates_18 (by decide) rfl (by omega) (fun c_18 => ?_) (fun c_18 => ?_)
    · refine ce_iload_n dX4_allocates_30 rfl ?_
      refine ce_iret dX4_allocates_31 rfl (by first | rfl | decide) (by decide) (by decide) ?_
      exact ⟨_, rfl, rfl, (if_neg c_8).symm, ce_rC_eq hr (ks_n c_8) (ks_n c_8), ce_fr.rf⟩
    · omega
  · refine ce_iconst (v := nI (1)) dX4_allocates_11 (by decide) ?_
    refine ce_goto (tgt := 16) dX4_allocates_12 (by decide) ?_
    refine ce_istore_n dX4_allocates_16 (Nat.le_of_ble_eq_true rfl) rfl ?_
    refine ce_iload_n dX4_allocates_17 rfl ?_
    refine ce_if_eqN (tgt := 30) dX4_allocates_18 (by decide) rfl (by omega) (fun c_18 => ?_) (fun c_18 => ?_)
    · omega
    · have q0 := kv_all0 (by omega) (hf.trans c_8)
      have hB := hk.i7
      have hM := hk.me
      have hW := hk.wi
      refine ce_aload_n dX4_allocates_21 rfl ?_
      refine ce_getR dX4_allocates_22 fRX4_12 hL.1 hL.2.1 ?_
      refine ce_iload_n dX4_allocates_25 rfl ?_
      refine ce_cVr dX4_allocates_26 hX0_shareOut kRX4_88 (m_X0_shareOut (r + 1) K O hL.2.2 hr hk (w) (by omega)) rfl rfl (hL.2.2).1 rfl (by decide) (Nat.le_of_ble_eq_true rfl) (fun rcg1 cg1 hcg1 => ?_)
      refine ce_pop dX4_allocates_29 rfl ?_
      refine ce_iload_n dX4_allocates_30 rfl ?_
      refine ce_iret dX4_allocates_31 rfl (by first | rfl | decide) (by decide) (by decide) ?_
      exact ⟨_, rfl, rfl, (if_pos c_8).symm, ce_rC_eq hcg1.2.1 (ks_y c_8) (ks_y c_8), hcg1.2.2⟩
set_option maxHeartbeats 2000000 in
set_option maxRecDepth 20000 in
theorem m_X4_delivers {σ : ce_S} {g : ce_D} (r : Nat) (K : ce_V) (O : Nat → Int32) (hL : ce_LR σ r) (hr : ce_rC g (r + 1) K O) (hk : kv_cl K) (w : Nat) (hw : w < 2 ^ 31) (f : Nat) (hf : kv_delF K (nI (w)) = f) (hf3 : f ≤ 3) : ce_CT (ce_r 4) mX4_delivers [.ref (r), .int (nI (w))] σ g (ce_rv σ (fun x g' => x = (if f = 0 then 1 else 0) ∧ ce_rC g' (r + 1) (ks_ite f (kv_bri K w) K) (ks_ite f (ko_bri K w O) O) ∧ ce_fr (r + 1) (r + 1 + 20) g g')) ce_no := by
  refine ce_enter (by decide) rfl (Nat.le_of_ble_eq_true rfl) (L := [some (.ref (r)), some (.int (nI (w))), none]) rfl ?_
  refine ce_aload_n dX4_delivers_0 rfl ?_
  refine ce_getR dX4_delivers_1 fRX4_12 hL.1 hL.2.1 ?_
  refine ce_iload_n dX4_delivers_4 rfl ?_
  refine ce_cVp dX4_delivers_5 hX0_deliveryFault kRX4_91 (hf ▸ (m_X0_deliveryFault (r + 1) K O hL.2.2 hr hk (nI (w)))) rfl rfl (hL.2.2).1 rfl (by decide) (Nat.le_of_ble_eq_true rfl) ?_
  refine ce_if_neN (tgt := 15) dX4_delivers_8 (by decide) rfl (by omega) (fun c_8 => ?_) (fun c_8 => ?_)
  · refine ce_iconst (v := nI (0)) dX4_delivers_15 (by decide) ?_
    refine ce_istore_n dX4_delivers_16 (Nat.le_of_ble_eq_true rfl) rfl ?_
    refine ce_iload_n dX4_delivers_17 rfl ?_
    refine ce_if_eqN (tgt := 30) dX4_delivers_18 (by decide) rfl (by omega) (fun c_18 => ?_) (fun c_18 => ?_)
    · refine ce_iload_n dX4_delivers_30 rfl ?_
      refine ce_iret dX4_delivers_31 rfl (by first | rfl | decide) (by decide) (by decide) ?_
      exact ⟨_, rfl, rfl, (if_neg c_8).symm, ce_rC_eq hr (ks_n c_8) (ks_n c_8), ce_fr.rf⟩
    · omega
  · refine ce_iconst (v := nI (1)) dX4_delivers_11 (by decide) ?_
    refine ce_goto (tgt := 16) dX4_delivers_12 (by decide) ?_
    refine ce_istore_n dX4_delivers_16 (Nat.le_of_ble_eq_true rfl) rfl ?_
    refine ce_iload_n dX4_delivers_17 rfl ?_
    refine ce_if_eqN (tgt := 30) dX4_delivers_18 (by decide) rfl (by omega) (fun c_18 => ?_) (fun c_18 => ?_)
    · omega
    · have q0 := kv_del0 (by omega) (hf.trans c_8)
      have hB := hk.i7
      have hM := hk.me
      have hW := hk.wi
      refine ce_aload_n dX4_delivers_21 rfl ?_
      refine ce_getR dX4_delivers_22 fRX4_12 hL.1 hL.2.1 ?_
      refine ce_iload_n dX4_delivers_25 rfl ?_
      refine ce_cVr dX4_delivers_26 hX0_bringIn kRX4_94 (m_X0_bringIn (r + 1) K O hL.2.2 hr hk (w) (by omega)) rfl rfl (hL.2.2).1 rfl (by decide) (Nat.le_of_ble_eq_true rfl) (fun rcg1 cg1 hcg1 => ?_)
      refine ce_pop dX4_delivers_29 rfl ?_
      refine ce_iload_n dX4_delivers_30 rfl ?_
      refine ce_iret dX4_delivers_31 rfl (by first | rfl | decide) (by decide) (by decide) ?_
      exact ⟨_, rfl, rfl, (if_pos c_8).symm, ce_rC_eq hcg1.2.1 (ks_y c_8) (ks_y c_8), hcg1.2.2⟩
set_option maxHeartbeats 2000000 in
set_option maxRecDepth 20000 in
theorem m_X4_drinks {σ : ce_S} {g : ce_D} (r : Nat) (K : ce_V) (O : Nat → Int32) (hL : ce_LR σ r) (hr : ce_rC g (r + 1) K O) (hk : kv_cl K) (m w n : Nat) (hm : m < 2 ^ 31) (hw : w < 2 ^ 31) (hn : n < 2 ^ 31) (f : Nat) (hf : kv_driF K (nI (m)) (nI (w)) (nI (n)) = f) (hf3 : f ≤ 3) : ce_CT (ce_r 4) mX4_drinks [.ref (r), .int (nI (m)), .int (nI (w)), .int (nI (n))] σ g (ce_rv σ (fun x g' => x = (if f = 0 then 1 else 0) ∧ ce_rC g' (r + 1) (ks_ite f (kv_dri K m w n) K) (ks_ite f (O) O) ∧ ce_fr (r + 1) (r + 1 + 20) g g')) ce_no := by
  refine ce_enter (by decide) rfl (Nat.le_of_ble_eq_true rfl) (L := [some (.ref (r)), some (.int (nI (m))), some (.int (nI (w))), some (.int (nI (n))), none]) rfl ?_
  refine ce_aload_n dX4_drinks_0 rfl ?_
  refine ce_getR dX4_drinks_1 fRX4_12 hL.1 hL.2.1 ?_
  refine ce_iload_n dX4_drinks_4 rfl ?_
  refine ce_iload_n dX4_drinks_5 rfl ?_
  refine ce_iload_n dX4_drinks_6 rfl ?_
  refine ce_cVp dX4_drinks_7 hX0_drinkFault kRX4_97 (hf ▸ (m_X0_drinkFault (r + 1) K O hL.2.2 hr hk (nI (m)) (nI (w)) (nI (n)))) rfl rfl (hL.2.2).1 rfl (by decide) (Nat.le_of_ble_eq_true rfl) ?_
  refine ce_if_neN (tgt := 17) dX4_drinks_10 (by decide) rfl (by omega) (fun c_10 => ?_) (fun c_10 => ?_)
  · refine ce_iconst (v := nI (0)) dX4_drinks_17 (by decide) ?_
    refine ce_istore dX4_drinks_18 (Nat.le_of_ble_eq_true rfl) rfl ?_
    refine ce_iload dX4_drinks_20 rfl ?_
    refine ce_if_eqN (tgt := 36) dX4_drinks_22 (by decide) rfl (by omega) (fun c_22 => ?_) (fun c_22 => ?_)
    · refine ce_iload dX4_drinks_36 rfl ?_
      refine ce_iret dX4_drinks_38 rfl (by first | rfl | decide) (by decide) (by decide) ?_
      exact ⟨_, rfl, rfl, (if_neg c_10).symm, ce_rC_eq hr (ks_n c_10) (ks_n c_10), ce_fr.rf⟩
    · omega
  · refine ce_iconst (v := nI (1)) dX4_drinks_13 (by decide) ?_
    refine ce_goto (tgt := 18) dX4_drinks_14 (by decide) ?_
    refine ce_istore dX4_drinks_18 (Nat.le_of_ble_eq_true rfl) rfl ?_
    refine ce_iload dX4_drinks_20 rfl ?_
    refine ce_if_eqN (tgt := 36) dX4_drinks_22 (by decide) rfl (by omega) (fun c_22 => ?_) (fun c_22 => ?_)
    · omega
    · have q0 := kv_dri0 (by omega) (by omega) (by omega) (hf.trans c_10)
      have hB := hk.i7
      have hM := hk.me
      have hW := hk.wi
      have hl := hk.le (m := m) (w := w) (by omega) (by omega)
      refine ce_aload_n dX4_drinks_25 rfl ?_
      refine ce_getR dX4_drinks_26 fRX4_12 hL.1 hL.2.1 ?_
      refine ce_iload_n dX4_drinks_29 rfl ?_
      refine ce_iload_n dX4_drinks_30 rfl ?_
      refine ce_iload_n dX4_drinks_31 rfl ?_
      refine ce_cVr dX4_drinks_32 hX0_drinkUp kRX4_100 (m_X0_drinkUp (r + 1) K O hL.2.2 hr hk (m) (w) (n) (by omega) (by omega) (by omega) (by omega)) rfl rfl (hL.2.2).1 rfl (by decide) (Nat.le_of_ble_eq_true rfl) (fun rcg1 cg1 hcg1 => ?_)
      refine ce_pop dX4_drinks_35 rfl ?_
      refine ce_iload dX4_drinks_36 rfl ?_
      refine ce_iret dX4_drinks_38 rfl (by first | rfl | decide) (by decide) (by decide) ?_
      exact ⟨_, rfl, rfl, (if_pos c_10).symm, ce_rC_eq hcg1.2.1 (ks_y c_10) (ks_y c_10), hcg1.2.2⟩
set_option maxHeartbeats 2000000 in
set_option maxRecDepth 20000 in
theorem m_X4_gives {σ : ce_S} {g : ce_D} (r : Nat) (K : ce_V) (O : Nat → Int32) (hL : ce_LR σ r) (hr : ce_rC g (r + 1) K O) (hk : kv_cl K) (m o w n : Nat) (hm : m < 2 ^ 31) (ho : o < 2 ^ 31) (hw : w < 2 ^ 31) (hn : n < 2 ^ 31) (f : Nat) (hf : kv_gifF K (nI (m)) (nI (o)) (nI (w)) (nI (n)) = f) (hf3 : f ≤ 3) : ce_CT (ce_r 4) mX4_gives [.ref (r), .int (nI (m)), .int (nI (o)), .int (nI (w)), .int (nI (n))] σ g (ce_rv σ (fun x g' => x = (if f = 0 then 1 else 0) ∧ ce_rC g' (r + 1) (ks_ite f (kv_han K m o w n) K) (ks_ite f (O) O) ∧ ce_fr (r + 1) (r + 1 + 20) g g')) ce_no := by
  refine ce_enter (by decide) rfl (Nat.le_of_ble_eq_true rfl) (L := [some (.ref (r)), some (.int (nI (m))), some (.int (nI (o))), some (.int (nI (w))), some (.int (nI (n))), none]) rfl ?_
  refine ce_aload_n dX4_gives_0 rfl ?_
  refine ce_getR dX4_gives_1 fRX4_12 hL.1 hL.2.1 ?_
  refine ce_iload_n dX4_gives_4 rfl ?_
  refine ce_iload_n dX4_gives_5 rfl ?_
  refine ce_iload_n dX4_gives_6 rfl ?_
  refine ce_iload dX4_gives_7 rfl ?_
  refine ce_cVp dX4_gives_9 hX0_giftFault kRX4_103 (hf ▸ (m_X0_giftFault (r + 1) K O hL.2.2 hr hk (nI (m)) (nI (o)) (nI (w)) (nI (n)))) rfl rfl (hL.2.2).1 rfl (by decide) (Nat.le_of_ble_eq_true rfl) ?_
  refine ce_if_neN (tgt := 19) dX4_gives_12 (by decide) rfl (by omega) (fun c_12 => ?_) (fun c_12 => ?_)
  · refine ce_iconst (v := nI (0)) dX4_gives_19 (by decide) ?_
    refine ce_istore dX4_gives_20 (Nat.le_of_ble_eq_true rfl) rfl ?_
    refine ce_iload dX4_gives_22 rfl ?_
    refine ce_if_eqN (tgt := 40) dX4_gives_24 (by decide) rfl (by omega) (fun c_24 => ?_) (fun c_24 => ?_)
    · refine ce_iload dX4_gives_40 rfl ?_
      refine ce_iret dX4_gives_42 rfl (by first | rfl | decide) (by decide) (by decide) ?_
      exact ⟨_, rfl, rfl, (if_neg c_12).symm, ce_rC_eq hr (ks_n c_12) (ks_n c_12), ce_fr.rf⟩
    · omega
  · refine ce_iconst (v := nI (1)) dX4_gives_15 (by decide) ?_
    refine ce_goto (tgt := 20) dX4_gives_16 (by decide) ?_
    refine ce_istore dX4_gives_20 (Nat.le_of_ble_eq_true rfl) rfl ?_
    refine ce_iload dX4_gives_22 rfl ?_
    refine ce_if_eqN (tgt := 40) dX4_gives_24 (by decide) rfl (by omega) (fun c_24 => ?_) (fun c_24 => ?_)
    · omega
    · have q0 := kv_gif0 (by omega) (by omega) (by omega) (by omega) (hf.trans c_12)
      have hB := hk.i7
      have hM := hk.me
      have hW := hk.wi
      have hl := hk.le (m := m) (w := w) (by omega) (by omega)
      refine ce_aload_n dX4_gives_27 rfl ?_
      refine ce_getR dX4_gives_28 fRX4_12 hL.1 hL.2.1 ?_
      refine ce_iload_n dX4_gives_31 rfl ?_
      refine ce_iload_n dX4_gives_32 rfl ?_
      refine ce_iload_n dX4_gives_33 rfl ?_
      refine ce_iload dX4_gives_34 rfl ?_
      refine ce_cVr dX4_gives_36 hX0_handOver kRX4_107 (m_X0_handOver (r + 1) K O hL.2.2 hr hk (m) (o) (w) (n) (by omega) (by omega) (by omega) (by omega) (by omega)) rfl rfl (hL.2.2).1 rfl (by decide) (Nat.le_of_ble_eq_true rfl) (fun rcg1 cg1 hcg1 => ?_)
      refine ce_pop dX4_gives_39 rfl ?_
      refine ce_iload dX4_gives_40 rfl ?_
      refine ce_iret dX4_gives_42 rfl (by first | rfl | decide) (by decide) (by decide) ?_
      exact ⟨_, rfl, rfl, (if_pos c_12).symm, ce_rC_eq hcg1.2.1 (ks_y c_12) (ks_y c_12), hcg1.2.2⟩
set_option maxHeartbeats 2000000 in
set_option maxRecDepth 20000 in
theorem m_X4_corks {σ : ce_S} {g : ce_D} (r : Nat) (K : ce_V) (O : Nat → Int32) (hL : ce_LR σ r) (hr : ce_rC g (r + 1) K O) (hk : kv_cl K) (m w : Nat) (hm : m < 2 ^ 31) (hw : w < 2 ^ 31) (f : Nat) (hf : kv_corF K (nI (m)) (nI (w)) = f) (hf3 : f ≤ 3) : ce_CT (ce_r 4) mX4_corks [.ref (r), .int (nI (m)), .int (nI (w))] σ g (ce_rv σ (fun x g' => x = (if f = 0 then 1 else 0) ∧ ce_rC g' (r + 1) (ks_ite f (kv_cor K m w) K) (ks_ite f (ko_cor K m w O) O) ∧ ce_fr (r + 1) (r + 1 + 20) g g')) ce_no := by
  refine ce_enter (by decide) rfl (Nat.le_of_ble_eq_true rfl) (L := [some (.ref (r)), some (.int (nI (m))), some (.int (nI (w))), none]) rfl ?_
  refine ce_aload_n dX4_corks_0 rfl ?_
  refine ce_getR dX4_corks_1 fRX4_12 hL.1 hL.2.1 ?_
  refine ce_iload_n dX4_corks_4 rfl ?_
  refine ce_iload_n dX4_corks_5 rfl ?_
  refine ce_cVp dX4_corks_6 hX0_corkFault kRX4_110 (hf ▸ (m_X0_corkFault (r + 1) K O hL.2.2 hr hk (nI (m)) (nI (w)))) rfl rfl (hL.2.2).1 rfl (by decide) (Nat.le_of_ble_eq_true rfl) ?_
  refine ce_if_neN (tgt := 16) dX4_corks_9 (by decide) rfl (by omega) (fun c_9 => ?_) (fun c_9 => ?_)
  · refine ce_iconst (v := nI (0)) dX4_corks_16 (by decide) ?_
    refine ce_istore_n dX4_corks_17 (Nat.le_of_ble_eq_true rfl) rfl ?_
    refine ce_iload_n dX4_corks_18 rfl ?_
    refine ce_if_eqN (tgt := 32) dX4_corks_19 (by decide) rfl (by omega) (fun c_19 => ?_) (fun c_19 => ?_)
    · refine ce_iload_n dX4_corks_32 rfl ?_
      refine ce_iret dX4_corks_33 rfl (by first | rfl | decide) (by decide) (by decide) ?_
      exact ⟨_, rfl, rfl, (if_neg c_9).symm, ce_rC_eq hr (ks_n c_9) (ks_n c_9), ce_fr.rf⟩
    · omega
  · refine ce_iconst (v := nI (1)) dX4_corks_12 (by decide) ?_
    refine ce_goto (tgt := 17) dX4_corks_13 (by decide) ?_
    refine ce_istore_n dX4_corks_17 (Nat.le_of_ble_eq_true rfl) rfl ?_
    refine ce_iload_n dX4_corks_18 rfl ?_
    refine ce_if_eqN (tgt := 32) dX4_corks_19 (by decide) rfl (by omega) (fun c_19 => ?_) (fun c_19 => ?_)
    · omega
    · have q0 := kv_cor0 (by omega) (by omega) (hf.trans c_9)
      have hB := hk.i7
      have hM := hk.me
      have hW := hk.wi
      have hl := hk.le (m := m) (w := w) (by omega) (by omega)
      refine ce_aload_n dX4_corks_22 rfl ?_
      refine ce_getR dX4_corks_23 fRX4_12 hL.1 hL.2.1 ?_
      refine ce_iload_n dX4_corks_26 rfl ?_
      refine ce_iload_n dX4_corks_27 rfl ?_
      refine ce_cVr dX4_corks_28 hX0_replaceCorked kRX4_113 (m_X0_replaceCorked (r + 1) K O hL.2.2 hr hk (m) (w) (by omega) (by omega) (by omega)) rfl rfl (hL.2.2).1 rfl (by decide) (Nat.le_of_ble_eq_true rfl) (fun rcg1 cg1 hcg1 => ?_)
      refine ce_pop dX4_corks_31 rfl ?_
      refine ce_iload_n dX4_corks_32 rfl ?_
      refine ce_iret dX4_corks_33 rfl (by first | rfl | decide) (by decide) (by decide) ?_
      exact ⟨_, rfl, rfl, (if_pos c_9).symm, ce_rC_eq hcg1.2.1 (ks_y c_9) (ks_y c_9), hcg1.2.2⟩
set_option maxHeartbeats 2000000 in
set_option maxRecDepth 20000 in
theorem m_X4_moves {σ : ce_S} {g : ce_D} (r : Nat) (K : ce_V) (O : Nat → Int32) (hL : ce_LR σ r) (hr : ce_rC g (r + 1) K O) (hk : kv_cl K) (a b n : Nat) (ha : a < 2 ^ 31) (hb : b < 2 ^ 31) (hn : n < 2 ^ 31) (f : Nat) (hf : kv_carF K (nI (a)) (nI (b)) (nI (n)) = f) (hf3 : f ≤ 3) : ce_CT (ce_r 4) mX4_moves [.ref (r), .int (nI (a)), .int (nI (b)), .int (nI (n))] σ g (ce_rv σ (fun x g' => x = (if f = 0 then 1 else 0) ∧ ce_rC g' (r + 1) (ks_ite f (kv_car K a b n) K) (ks_ite f (O) O) ∧ ce_fr (r + 1) (r + 1 + 20) g g')) ce_no := by
  refine ce_enter (by decide) rfl (Nat.le_of_ble_eq_true rfl) (L := [some (.ref (r)), some (.int (nI (a))), some (.int (nI (b))), some (.int (nI (n))), none]) rfl ?_
  refine ce_aload_n dX4_moves_0 rfl ?_
  refine ce_getR dX4_moves_1 fRX4_12 hL.1 hL.2.1 ?_
  refine ce_getR dX4_moves_4 fRX4_60 (hL.2.2).1 (hL.2.2).2.2.1.2.2.2.2 ?_
  refine ce_iload_n dX4_moves_7 rfl ?_
  refine ce_iload_n dX4_moves_8 rfl ?_
  refine ce_iload_n dX4_moves_9 rfl ?_
  refine ce_cVp dX4_moves_10 hX3_carryFault kRX4_116 (hf ▸ (m_X3_carryFault (r + 1 + 16) K hL.2.2.2.2.2.2.2 hr.k hk.rk (nI (a)) (nI (b)) (nI (n)))) rfl rfl ((hL.2.2).2.2.2.2.2).1 rfl (by decide) (Nat.le_of_ble_eq_true rfl) ?_
  refine ce_if_neN (tgt := 20) dX4_moves_13 (by decide) rfl (by omega) (fun c_13 => ?_) (fun c_13 => ?_)
  · refine ce_iconst (v := nI (0)) dX4_moves_20 (by decide) ?_
    refine ce_istore dX4_moves_21 (Nat.le_of_ble_eq_true rfl) rfl ?_
    refine ce_iload dX4_moves_23 rfl ?_
    refine ce_if_eqN (tgt := 42) dX4_moves_25 (by decide) rfl (by omega) (fun c_25 => ?_) (fun c_25 => ?_)
    · refine ce_iload dX4_moves_42 rfl ?_
      refine ce_iret dX4_moves_44 rfl (by first | rfl | decide) (by decide) (by decide) ?_
      exact ⟨_, rfl, rfl, (if_neg c_13).symm, ce_rC_eq hr (ks_n c_13) (ks_n c_13), ce_fr.rf⟩
    · omega
  · refine ce_iconst (v := nI (1)) dX4_moves_16 (by decide) ?_
    refine ce_goto (tgt := 21) dX4_moves_17 (by decide) ?_
    refine ce_istore dX4_moves_21 (Nat.le_of_ble_eq_true rfl) rfl ?_
    refine ce_iload dX4_moves_23 rfl ?_
    refine ce_if_eqN (tgt := 42) dX4_moves_25 (by decide) rfl (by omega) (fun c_25 => ?_) (fun c_25 => ?_)
    · omega
    · have q0 := kv_car0 hk.rk (by omega) (by omega) (by omega) (hf.trans c_13)
      have hB := hk.i7
      have hM := hk.me
      have hW := hk.wi
      refine ce_aload_n dX4_moves_28 rfl ?_
      refine ce_getR dX4_moves_29 fRX4_12 hL.1 hL.2.1 ?_
      refine ce_getR dX4_moves_32 fRX4_60 (hL.2.2).1 (hL.2.2).2.2.1.2.2.2.2 ?_
      refine ce_iload_n dX4_moves_35 rfl ?_
      refine ce_iload_n dX4_moves_36 rfl ?_
      refine ce_iload_n dX4_moves_37 rfl ?_
      refine ce_cVr dX4_moves_38 hX3_carry kRX4_119 (m_X3_carry (r + 1 + 16) K hL.2.2.2.2.2.2.2 hr.k hk.rk (a) (b) (n) (by omega) (by omega) (by omega) (by omega) (by omega)) rfl rfl ((hL.2.2).2.2.2.2.2).1 rfl (by decide) (Nat.le_of_ble_eq_true rfl) (fun rcg1 cg1 hcg1 => ?_)
      have q8 : ce_rC cg1 (r + 1) (kv_car K a b n) O := hr.rk hcg1.2.1 hcg1.2.2 kv_eq_car
      have q9 : ce_fr (r + 1) (r + 1 + 20) g cg1 := hcg1.2.2.wk ⟨by omega, by omega⟩
      refine ce_pop dX4_moves_41 rfl ?_
      refine ce_iload dX4_moves_42 rfl ?_
      refine ce_iret dX4_moves_44 rfl (by first | rfl | decide) (by decide) (by decide) ?_
      exact ⟨_, rfl, rfl, (if_pos c_13).symm, ce_rC_eq q8 (ks_y c_13) (ks_y c_13), q9⟩
set_option maxHeartbeats 2000000 in
set_option maxRecDepth 20000 in
theorem m_X4_begin {σ : ce_S} {g : ce_D} (r c : Nat) (K : ce_V) (O : Nat → Int32) (hL : ce_LR σ r) (hC : ce_LC σ c) (hr : ce_rC g c K O) (hk : kv_rk K) (hd : r + 1 + 20 ≤ c ∨ c + 20 ≤ r + 1) : ce_CT (ce_r 4) mX4_begin [.ref (r), .ref (c)] σ g (ce_uv σ (fun g' => ce_rC g' (r + 1) K O ∧ ce_fr (r + 1) (r + 1 + 20) g g')) ce_no := by
  refine ce_enter (by decide) rfl (Nat.le_of_ble_eq_true rfl) (L := [some (.ref (r)), some (.ref (c))]) rfl ?_
  refine ce_aload_n dX4_begin_0 rfl ?_
  refine ce_getR dX4_begin_1 fRX4_12 hL.1 hL.2.1 ?_
  refine ce_aload_n dX4_begin_4 rfl ?_
  refine ce_cVu dX4_begin_5 hX0_copyFrom kRX4_18 (m_X0_copyFrom (r + 1) c K O hL.2.2 hC hr hk hd) rfl rfl (hL.2.2).1 rfl (by decide) (Nat.le_of_ble_eq_true rfl) (fun cg1 hcg1 => ?_)
  exact ce_vret dX4_begin_8 rfl (by decide) (by decide) ⟨rfl, rfl, hcg1⟩
