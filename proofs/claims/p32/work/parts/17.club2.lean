set_option maxHeartbeats 2000000 in
set_option maxRecDepth 20000 in
theorem w_X0_nextToGet {σ : ce_S} {g : ce_D} (c : Nat) (K : ce_V) (O : Nat → Int32) (hL : ce_LC σ c) (hr : ce_rC g c K O) (hk : kv_c0 K) (w : Nat) (hw : w < 6) (h8 : ∀ m, m < 6 → K 8 (m * 6 + w) ≤ 60) (h7 : ∀ j, K 7 j ≤ 60) : ∀ (n9 : Nat) (i : Nat), K 0 0 - i < n9 → i ≤ K 0 0 → ce_WP (ce_r 2) mX0_nextToGet 0 0 5 [some (.ref (c)), some (.int (nI (w))), some (.int (ce_o (kv_next K w i))), some (.int (nI (i))), none] [] σ g (ce_pv (ce_o (kv_next K w (K 0 0))) σ g) ce_no := by
  intro n9
  induction n9 with
  | zero =>
    intros
    omega
  | succ n9 ih =>
    intro i hm hi
    have hB := hk.i7
    have hM := hk.me
    have hW := hk.wi
    have hi8 := h8 i
    have hi7 := h7 (i * 6 + w)
    have hhk := hk
    cases hp : kv_next K w i with
    | none =>
      show ce_WP (ce_r 2) mX0_nextToGet 0 0 5 [some (.ref (c)), some (.int (nI (w))), some (.int ((-99999))), some (.int (nI (i))), none] [] σ g (ce_pv (ce_o (kv_next K w (K 0 0))) σ g) ce_no
      refine ce_iload_n dX0_nextToGet_5 rfl ?_
      refine ce_aload_n dX0_nextToGet_6 rfl ?_
      refine ce_getIv dX0_nextToGet_7 fRX0_56 (hL).1 (hr).1 ?_
      refine ce_icmp_geN (tgt := 70) dX0_nextToGet_10 (by decide) rfl rfl (by omega) (by omega) (fun c_10 => ?_) (fun c_10 => ?_)
      · refine ce_iload_n dX0_nextToGet_70 rfl ?_
        refine ce_iret dX0_nextToGet_71 rfl rfl (by decide) (by decide) ?_
        exact ⟨congrArg (fun z => some (Value.int z)) (by rw [show i = K 0 0 by omega] at hp; rw [hp]; rfl), rfl, rfl⟩
      · refine ce_aload_n dX0_nextToGet_13 rfl ?_
        refine ce_getR dX0_nextToGet_14 fRX0_40 (hL).1 (hL).2.2.1.2.1 ?_
        refine ce_iload_n dX0_nextToGet_17 rfl ?_
        refine ce_iload_n dX0_nextToGet_18 rfl ?_
        refine ce_cVp dX0_nextToGet_19 hX5_of kRX0_94 (n_X5_of (hL).2.2.2.2.1.2.1 (m := i) (w := w) (by omega) (by omega) (nI (K 8 (i * 6 + w))) ((hr).t 8 (by decide) (by omega))) rfl rfl ((hL).2.2.2.2.1.2.1).1 rfl (by decide) (Nat.le_of_ble_eq_true rfl) ?_
        refine ce_aload_n dX0_nextToGet_22 rfl ?_
        refine ce_getR dX0_nextToGet_23 fRX0_36 (hL).1 (hL).2.2.1.1 ?_
        refine ce_iload_n dX0_nextToGet_26 rfl ?_
        refine ce_iload_n dX0_nextToGet_27 rfl ?_
        refine ce_cVp dX0_nextToGet_28 hX5_of kRX0_94 (n_X5_of (hL).2.2.2.2.1.1 (m := i) (w := w) (by omega) (by omega) (nI (K 7 (i * 6 + w))) ((hr).t 7 (by decide) (by omega))) rfl rfl ((hL).2.2.2.2.1.1).1 rfl (by decide) (Nat.le_of_ble_eq_true rfl) ?_
        refine ce_icmp_geN (tgt := 38) dX0_nextToGet_31 (by decide) rfl rfl (by omega) (by omega) (fun c_31 => ?_) (fun c_31 => ?_)
        · refine ce_iconst (v := nI (0)) dX0_nextToGet_38 (by decide) ?_
          refine ce_istore dX0_nextToGet_39 (Nat.le_of_ble_eq_true rfl) rfl ?_
          refine ce_iload dX0_nextToGet_41 rfl ?_
          refine ce_if_eqN (tgt := 64) dX0_nextToGet_43 (by decide) rfl (by omega) (fun c_43 => ?_) (fun c_43 => ?_)
          · refine ce_iinc (v := nI (i + 1)) dX0_nextToGet_64 rfl (ce_inc1 _) (Nat.le_of_ble_eq_true rfl) rfl ?_
            refine ce_goto (tgt := 5) dX0_nextToGet_67 (by decide) ?_
            refine ce_drop (L' := [some (.ref (c)), some (.int (nI (w))), some (.int ((-99999))), some (.int (nI (i + 1))), none]) (ce_le_s rfl (ce_le_s rfl (ce_le_s rfl (ce_le_s rfl (ce_le_n ce_le_e))))) ?_
            have e9 : kv_next K w (i + 1) = none := by
              unfold kv_next
              rw [hp]
              dsimp only
              (repeat' split) <;> first | rfl | (exfalso; omega)
            have e8 := ih (i + 1) (by omega) (by omega)
            rw [e9] at e8
            exact e8
          · omega
        · refine ce_iconst (v := nI (1)) dX0_nextToGet_34 (by decide) ?_
          refine ce_goto (tgt := 39) dX0_nextToGet_35 (by decide) ?_
          refine ce_istore dX0_nextToGet_39 (Nat.le_of_ble_eq_true rfl) rfl ?_
          refine ce_iload dX0_nextToGet_41 rfl ?_
          refine ce_if_eqN (tgt := 64) dX0_nextToGet_43 (by decide) rfl (by omega) (fun c_43 => ?_) (fun c_43 => ?_)
          · omega
          · refine ce_iload_n dX0_nextToGet_46 rfl ?_
            refine ce_ldc dX0_nextToGet_47 kRX0_109 ?_
            refine ce_icmp_eqI (p := (-99999)) (q := (-99999)) (tgt := 62) dX0_nextToGet_49 (by decide) (by decide) (by decide) (fun c_49 => ?_) (fun c_49 => ?_)
            · refine ce_iload_n dX0_nextToGet_62 rfl ?_
              refine ce_istore_n dX0_nextToGet_63 (Nat.le_of_ble_eq_true rfl) rfl ?_
              refine ce_iinc (v := nI (i + 1)) dX0_nextToGet_64 rfl (ce_inc1 _) (Nat.le_of_ble_eq_true rfl) rfl ?_
              refine ce_goto (tgt := 5) dX0_nextToGet_67 (by decide) ?_
              refine ce_drop (L' := [some (.ref (c)), some (.int (nI (w))), some (.int (nI (i))), some (.int (nI (i + 1))), none]) (ce_le_s rfl (ce_le_s rfl (ce_le_s rfl (ce_le_s rfl (ce_le_n ce_le_e))))) ?_
              have e9 : kv_next K w (i + 1) = some (i) := by
                unfold kv_next
                rw [hp]
                dsimp only
                (repeat' split) <;> first | rfl | (exfalso; omega)
              have e8 := ih (i + 1) (by omega) (by omega)
              rw [e9] at e8
              exact e8
            · omega
    | some o =>
      have hc := kv_next_lt hp
      have ho8 := h8 o (by omega)
      show ce_WP (ce_r 2) mX0_nextToGet 0 0 5 [some (.ref (c)), some (.int (nI (w))), some (.int (nI (o))), some (.int (nI (i))), none] [] σ g (ce_pv (ce_o (kv_next K w (K 0 0))) σ g) ce_no
      refine ce_iload_n dX0_nextToGet_5 rfl ?_
      refine ce_aload_n dX0_nextToGet_6 rfl ?_
      refine ce_getIv dX0_nextToGet_7 fRX0_56 (hL).1 (hr).1 ?_
      refine ce_icmp_geN (tgt := 70) dX0_nextToGet_10 (by decide) rfl rfl (by omega) (by omega) (fun c_10 => ?_) (fun c_10 => ?_)
      · refine ce_iload_n dX0_nextToGet_70 rfl ?_
        refine ce_iret dX0_nextToGet_71 rfl rfl (by decide) (by decide) ?_
        exact ⟨congrArg (fun z => some (Value.int z)) (by rw [show i = K 0 0 by omega] at hp; rw [hp]; rfl), rfl, rfl⟩
      · refine ce_aload_n dX0_nextToGet_13 rfl ?_
        refine ce_getR dX0_nextToGet_14 fRX0_40 (hL).1 (hL).2.2.1.2.1 ?_
        refine ce_iload_n dX0_nextToGet_17 rfl ?_
        refine ce_iload_n dX0_nextToGet_18 rfl ?_
        refine ce_cVp dX0_nextToGet_19 hX5_of kRX0_94 (n_X5_of (hL).2.2.2.2.1.2.1 (m := i) (w := w) (by omega) (by omega) (nI (K 8 (i * 6 + w))) ((hr).t 8 (by decide) (by omega))) rfl rfl ((hL).2.2.2.2.1.2.1).1 rfl (by decide) (Nat.le_of_ble_eq_true rfl) ?_
        refine ce_aload_n dX0_nextToGet_22 rfl ?_
        refine ce_getR dX0_nextToGet_23 fRX0_36 (hL).1 (hL).2.2.1.1 ?_
        refine ce_iload_n dX0_nextToGet_26 rfl ?_
        refine ce_iload_n dX0_nextToGet_27 rfl ?_
        refine ce_cVp dX0_nextToGet_28 hX5_of kRX0_94 (n_X5_of (hL).2.2.2.2.1.1 (m := i) (w := w) (by omega) (by omega) (nI (K 7 (i * 6 + w))) ((hr).t 7 (by decide) (by omega))) rfl rfl ((hL).2.2.2.2.1.1).1 rfl (by decide) (Nat.le_of_ble_eq_true rfl) ?_
        refine ce_icmp_geN (tgt := 38) dX0_nextToGet_31 (by decide) rfl rfl (by omega) (by omega) (fun c_31 => ?_) (fun c_31 => ?_)
        · refine ce_iconst (v := nI (0)) dX0_nextToGet_38 (by decide) ?_
          refine ce_istore dX0_nextToGet_39 (Nat.le_of_ble_eq_true rfl) rfl ?_
          refine ce_iload dX0_nextToGet_41 rfl ?_
          refine ce_if_eqN (tgt := 64) dX0_nextToGet_43 (by decide) rfl (by omega) (fun c_43 => ?_) (fun c_43 => ?_)
          · refine ce_iinc (v := nI (i + 1)) dX0_nextToGet_64 rfl (ce_inc1 _) (Nat.le_of_ble_eq_true rfl) rfl ?_
            refine ce_goto (tgt := 5) dX0_nextToGet_67 (by decide) ?_
            refine ce_drop (L' := [some (.ref (c)), some (.int (nI (w))), some (.int (nI (o))), some (.int (nI (i + 1))), none]) (ce_le_s rfl (ce_le_s rfl (ce_le_s rfl (ce_le_s rfl (ce_le_n ce_le_e))))) ?_
            have e9 : kv_next K w (i + 1) = some (o) := by
              unfold kv_next
              rw [hp]
              dsimp only
              (repeat' split) <;> first | rfl | (exfalso; omega)
            have e8 := ih (i + 1) (by omega) (by omega)
            rw [e9] at e8
            exact e8
          · omega
        · refine ce_iconst (v := nI (1)) dX0_nextToGet_34 (by decide) ?_
          refine ce_goto (tgt := 39) dX0_nextToGet_35 (by decide) ?_
          refine ce_istore dX0_nextToGet_39 (Nat.le_of_ble_eq_true rfl) rfl ?_
          refine ce_iload dX0_nextToGet_41 rfl ?_
          refine ce_if_eqN (tgt := 64) dX0_nextToGet_43 (by decide) rfl (by omega) (fun c_43 => ?_) (fun c_43 => ?_)
          · omega
          · refine ce_iload_n dX0_nextToGet_46 rfl ?_
            refine ce_ldc dX0_nextToGet_47 kRX0_109 ?_
            refine ce_icmp_eqI (p := ((o : Nat) : Int)) (q := (-99999)) (tgt := 62) dX0_nextToGet_49 (by decide) (nI_toInt (by omega)) (by decide) (fun c_49 => ?_) (fun c_49 => ?_)
            · omega
            · refine ce_aload_n dX0_nextToGet_52 rfl ?_
              refine ce_iload_n dX0_nextToGet_53 rfl ?_
              refine ce_iload_n dX0_nextToGet_54 rfl ?_
              refine ce_iload_n dX0_nextToGet_55 rfl ?_
              refine ce_cVp dX0_nextToGet_56 hX0_comesBefore kRX0_121 (m_X0_comesBefore c K O hL hr hk (i) (o) (w) (by omega) (by omega) (by omega) (h8 _ (by omega)) (h8 _ (by omega))) rfl rfl (hL).1 rfl (by decide) (Nat.le_of_ble_eq_true rfl) ?_
              refine ce_if_eqB (tgt := 64) dX0_nextToGet_59 (by decide) rfl (fun c_59 => ?_) (fun c_59 => ?_)
              · refine ce_iinc (v := nI (i + 1)) dX0_nextToGet_64 rfl (ce_inc1 _) (Nat.le_of_ble_eq_true rfl) rfl ?_
                refine ce_goto (tgt := 5) dX0_nextToGet_67 (by decide) ?_
                refine ce_drop (L' := [some (.ref (c)), some (.int (nI (w))), some (.int (nI (o))), some (.int (nI (i + 1))), none]) (ce_le_s rfl (ce_le_s rfl (ce_le_s rfl (ce_le_s rfl (ce_le_n ce_le_e))))) ?_
                have e9 : kv_next K w (i + 1) = some (o) := by
                  unfold kv_next
                  rw [hp]
                  dsimp only
                  (repeat' split) <;> first | rfl | (exfalso; omega)
                have e8 := ih (i + 1) (by omega) (by omega)
                rw [e9] at e8
                exact e8
              · refine ce_iload_n dX0_nextToGet_62 rfl ?_
                refine ce_istore_n dX0_nextToGet_63 (Nat.le_of_ble_eq_true rfl) rfl ?_
                refine ce_iinc (v := nI (i + 1)) dX0_nextToGet_64 rfl (ce_inc1 _) (Nat.le_of_ble_eq_true rfl) rfl ?_
                refine ce_goto (tgt := 5) dX0_nextToGet_67 (by decide) ?_
                refine ce_drop (L' := [some (.ref (c)), some (.int (nI (w))), some (.int (nI (i))), some (.int (nI (i + 1))), none]) (ce_le_s rfl (ce_le_s rfl (ce_le_s rfl (ce_le_s rfl (ce_le_n ce_le_e))))) ?_
                have e9 : kv_next K w (i + 1) = some (i) := by
                  unfold kv_next
                  rw [hp]
                  dsimp only
                  (repeat' split) <;> first | rfl | (exfalso; omega)
                have e8 := ih (i + 1) (by omega) (by omega)
                rw [e9] at e8
                exact e8
set_option maxHeartbeats 2000000 in
set_option maxRecDepth 20000 in
theorem m_X0_nextToGet {σ : ce_S} {g : ce_D} (c : Nat) (K : ce_V) (O : Nat → Int32) (hL : ce_LC σ c) (hr : ce_rC g c K O) (hk : kv_c0 K) (w : Nat) (hw : w < 6) (h8 : ∀ m, m < 6 → K 8 (m * 6 + w) ≤ 60) (h7 : ∀ j, K 7 j ≤ 60) : ce_CT (ce_r 2) mX0_nextToGet [.ref (c), .int (nI (w))] σ g (ce_pv (ce_o (kv_next K w (K 0 0))) σ g) ce_no := by
  have hB := hk.i7
  have hM := hk.me
  have hW := hk.wi
  refine ce_enter (by decide) rfl (Nat.le_of_ble_eq_true rfl) (L := [some (.ref (c)), some (.int (nI (w))), none, none, none]) rfl ?_
  refine ce_ldc dX0_nextToGet_0 kRX0_109 ?_
  refine ce_istore_n dX0_nextToGet_2 (Nat.le_of_ble_eq_true rfl) rfl ?_
  refine ce_iconst (v := nI (0)) dX0_nextToGet_3 (by decide) ?_
  refine ce_istore_n dX0_nextToGet_4 (Nat.le_of_ble_eq_true rfl) rfl ?_
  exact w_X0_nextToGet c K O hL hr hk w hw h8 h7 (K 0 0 + 1) 0 (by omega) (by omega)
theorem n_X0_nextToGet {σ : ce_S} {g : ce_D} (c : Nat) (K : ce_V) (O : Nat → Int32) (hL : ce_LC σ c) (hr : ce_rC g c K O) (hk : kv_c0 K) (w : Nat) (hw : w < 6) (h8 : ∀ m, m < 6 → K 8 (m * 6 + w) ≤ 60) (h7 : ∀ j, K 7 j ≤ 60) (v : Int32) (hv : ce_o (kv_next K w (K 0 0)) = v) : ce_CT (ce_r 2) mX0_nextToGet [.ref (c), .int (nI (w))] σ g (ce_pv v σ g) ce_no := hv ▸ m_X0_nextToGet c K O hL hr hk w hw h8 h7
set_option maxHeartbeats 2000000 in
set_option maxRecDepth 20000 in
theorem m_X0_enrol {σ : ce_S} {g : ce_D} (c : Nat) (K : ce_V) (O : Nat → Int32) (hL : ce_LC σ c) (hr : ce_rC g c K O) (hk : kv_cl K) (p : Nat) (hm : K 0 0 < 6) : ce_CT (ce_r 0) mX0_enrol [.ref (c), .int (nI (p))] σ g (ce_rv σ (fun r g' => r = nI (K 0 0) ∧ ce_rC g' c (kv_enr K p) O ∧ ce_fr c (c + 20) g g')) ce_no := by
  have hB := hk.i7
  have hM := hk.me
  have hW := hk.wi
  refine ce_enter (by decide) rfl (Nat.le_of_ble_eq_true rfl) (L := [some (.ref (c)), some (.int (nI (p))), none]) rfl ?_
  refine ce_aload_n dX0_enrol_0 rfl ?_
  refine ce_getIv dX0_enrol_1 fRX0_56 (hL).1 (hr).1 ?_
  refine ce_istore_n dX0_enrol_4 (Nat.le_of_ble_eq_true rfl) rfl ?_
  refine ce_aload_n dX0_enrol_5 rfl ?_
  refine ce_getR dX0_enrol_6 fRX0_9 (hL).1 (hL).2.1.1 ?_
  refine ce_iload_n dX0_enrol_9 rfl ?_
  refine ce_iload_n dX0_enrol_10 rfl ?_
  refine ce_iast dX0_enrol_11 ((hL).2.2.2.1.1).1 rfl ((hL).2.2.2.1.1).2 (by omega) (by decide) ?_
  generalize hcg1 : ce_up g (c + 1) (K 0 0) (nI (p)) = cg1
  have rcg1 : ce_rC cg1 c (kv_up K 1 (K 0 0) (p)) O := hcg1 ▸ (hr).up 1 (K 0 0) (p) (by decide) rfl
  have fcg1 : ce_fr c (c + 20) g cg1 := hcg1 ▸ (ce_fr.rf).up _ _ (by omega)
  refine ce_aload_n dX0_enrol_12 rfl ?_
  refine ce_dup dX0_enrol_13 rfl ?_
  refine ce_getIv dX0_enrol_14 fRX0_56 (hL).1 (rcg1).1 ?_
  refine ce_iconst (v := nI (1)) dX0_enrol_17 (by decide) ?_
  refine ce_iadd (z := nI ((kv_up K 1 (K 0 0) (p)) 0 0 + 1)) dX0_enrol_18 (nI_add _ _) ?_
  refine ce_putI dX0_enrol_19 pRX0_56 (hL).1 rfl rfl ?_
  generalize hcg2 : ce_up cg1 (c) 0 (nI ((kv_up K 1 (K 0 0) (p)) 0 0 + 1)) = cg2
  have rcg2 : ce_rC cg2 c (kv_up (kv_up K 1 (K 0 0) (p)) 0 0 ((kv_up K 1 (K 0 0) (p)) 0 0 + 1)) O := hcg2 ▸ (rcg1).upc 0 ((kv_up K 1 (K 0 0) (p)) 0 0 + 1) (by decide)
  have fcg2 : ce_fr c (c + 20) g cg2 := hcg2 ▸ (fcg1).up _ _ (by omega)
  refine ce_iload_n dX0_enrol_22 rfl ?_
  refine ce_iret dX0_enrol_23 rfl rfl (by decide) (by decide) ?_
  exact ⟨_, rfl, rfl, rfl, rcg2, fcg2⟩
set_option maxHeartbeats 2000000 in
set_option maxRecDepth 20000 in
theorem m_X0_offer {σ : ce_S} {g : ce_D} (c : Nat) (K : ce_V) (O : Nat → Int32) (hL : ce_LC σ c) (hr : ce_rC g c K O) (hk : kv_cl K) (p n : Nat) (hm : K 0 1 < 6) : ce_CT (ce_r 0) mX0_offer [.ref (c), .int (nI (p)), .int (nI (n))] σ g (ce_rv σ (fun r g' => r = nI (K 0 1) ∧ ce_rC g' c (kv_off K p n) O ∧ ce_fr c (c + 20) g g')) ce_no := by
  have hB := hk.i7
  have hM := hk.me
  have hW := hk.wi
  refine ce_enter (by decide) rfl (Nat.le_of_ble_eq_true rfl) (L := [some (.ref (c)), some (.int (nI (p))), some (.int (nI (n))), none]) rfl ?_
  refine ce_aload_n dX0_offer_0 rfl ?_
  refine ce_getIv dX0_offer_1 fRX0_60 (hL).1 (hr).2.1 ?_
  refine ce_istore_n dX0_offer_4 (Nat.le_of_ble_eq_true rfl) rfl ?_
  refine ce_aload_n dX0_offer_5 rfl ?_
  refine ce_getR dX0_offer_6 fRX0_18 (hL).1 (hL).2.1.2.2.1 ?_
  refine ce_iload_n dX0_offer_9 rfl ?_
  refine ce_iload_n dX0_offer_10 rfl ?_
  refine ce_iast dX0_offer_11 ((hL).2.2.2.1.2.2.1).1 rfl ((hL).2.2.2.1.2.2.1).2 (by omega) (by decide) ?_
  generalize hcg1 : ce_up g (c + 3) (K 0 1) (nI (p)) = cg1
  have rcg1 : ce_rC cg1 c (kv_up K 2 (K 0 1) (p)) O := hcg1 ▸ (hr).up 2 (K 0 1) (p) (by decide) rfl
  have fcg1 : ce_fr c (c + 20) g cg1 := hcg1 ▸ (ce_fr.rf).up _ _ (by omega)
  refine ce_aload_n dX0_offer_12 rfl ?_
  refine ce_getR dX0_offer_13 fRX0_21 (hL).1 (hL).2.1.2.2.2.1 ?_
  refine ce_iload_n dX0_offer_16 rfl ?_
  refine ce_iload_n dX0_offer_17 rfl ?_
  refine ce_iast dX0_offer_18 ((hL).2.2.2.1.2.2.2.1).1 rfl ((hL).2.2.2.1.2.2.2.1).2 (by omega) (by decide) ?_
  generalize hcg2 : ce_up cg1 (c + 4) (K 0 1) (nI (n)) = cg2
  have rcg2 : ce_rC cg2 c (kv_up (kv_up K 2 (K 0 1) (p)) 3 (K 0 1) (n)) O := hcg2 ▸ (rcg1).up 3 (K 0 1) (n) (by decide) rfl
  have fcg2 : ce_fr c (c + 20) g cg2 := hcg2 ▸ (fcg1).up _ _ (by omega)
  refine ce_aload_n dX0_offer_19 rfl ?_
  refine ce_getR dX0_offer_20 fRX0_24 (hL).1 (hL).2.1.2.2.2.2.1 ?_
  refine ce_iload_n dX0_offer_23 rfl ?_
  refine ce_iload_n dX0_offer_24 rfl ?_
  refine ce_iast dX0_offer_25 ((hL).2.2.2.1.2.2.2.2.1).1 rfl ((hL).2.2.2.1.2.2.2.2.1).2 (by omega) (by decide) ?_
  generalize hcg3 : ce_up cg2 (c + 5) (K 0 1) (nI (n)) = cg3
  have rcg3 : ce_rC cg3 c (kv_up (kv_up (kv_up K 2 (K 0 1) (p)) 3 (K 0 1) (n)) 4 (K 0 1) (n)) O := hcg3 ▸ (rcg2).up 4 (K 0 1) (n) (by decide) rfl
  have fcg3 : ce_fr c (c + 20) g cg3 := hcg3 ▸ (fcg2).up _ _ (by omega)
  refine ce_aload_n dX0_offer_26 rfl ?_
  refine ce_dup dX0_offer_27 rfl ?_
  refine ce_getIv dX0_offer_28 fRX0_60 (hL).1 (rcg3).2.1 ?_
  refine ce_iconst (v := nI (1)) dX0_offer_31 (by decide) ?_
  refine ce_iadd (z := nI ((kv_up (kv_up (kv_up K 2 (K 0 1) (p)) 3 (K 0 1) (n)) 4 (K 0 1) (n)) 0 1 + 1)) dX0_offer_32 (nI_add _ _) ?_
  refine ce_putI dX0_offer_33 pRX0_60 (hL).1 rfl rfl ?_
  generalize hcg4 : ce_up cg3 (c) 1 (nI ((kv_up (kv_up (kv_up K 2 (K 0 1) (p)) 3 (K 0 1) (n)) 4 (K 0 1) (n)) 0 1 + 1)) = cg4
  have rcg4 : ce_rC cg4 c (kv_up (kv_up (kv_up (kv_up K 2 (K 0 1) (p)) 3 (K 0 1) (n)) 4 (K 0 1) (n)) 0 1 ((kv_up (kv_up (kv_up K 2 (K 0 1) (p)) 3 (K 0 1) (n)) 4 (K 0 1) (n)) 0 1 + 1)) O := hcg4 ▸ (rcg3).upc 1 ((kv_up (kv_up (kv_up K 2 (K 0 1) (p)) 3 (K 0 1) (n)) 4 (K 0 1) (n)) 0 1 + 1) (by decide)
  have fcg4 : ce_fr c (c + 20) g cg4 := hcg4 ▸ (fcg3).up _ _ (by omega)
  refine ce_iload_n dX0_offer_36 rfl ?_
  refine ce_iret dX0_offer_37 rfl rfl (by decide) (by decide) ?_
  exact ⟨_, rfl, rfl, rfl, rcg4, fcg4⟩
set_option maxHeartbeats 2000000 in
set_option maxRecDepth 20000 in
theorem m_X0_changeOrder {σ : ce_S} {g : ce_D} (c : Nat) (K : ce_V) (O : Nat → Int32) (hL : ce_LC σ c) (hr : ce_rC g c K O) (hk : kv_cl K) (m w n : Nat) (hm : m < 6) (hw : w < 6) : ce_CT (ce_r 1) mX0_changeOrder [.ref (c), .int (nI (m)), .int (nI (w)), .int (nI (n))] σ g (ce_rv σ (fun r g' => r = nI (K 7 (m * 6 + w)) ∧ ce_rC g' c (kv_ord K m w n) O ∧ ce_fr c (c + 20) g g')) ce_no := by
  have hB := hk.i7
  have hM := hk.me
  have hW := hk.wi
  refine ce_enter (by decide) rfl (Nat.le_of_ble_eq_true rfl) (L := [some (.ref (c)), some (.int (nI (m))), some (.int (nI (w))), some (.int (nI (n))), none]) rfl ?_
  refine ce_aload_n dX0_changeOrder_0 rfl ?_
  refine ce_getR dX0_changeOrder_1 fRX0_36 (hL).1 (hL).2.2.1.1 ?_
  refine ce_iload_n dX0_changeOrder_4 rfl ?_
  refine ce_iload_n dX0_changeOrder_5 rfl ?_
  refine ce_cVp dX0_changeOrder_6 hX5_of kRX0_94 (n_X5_of (hL).2.2.2.2.1.1 (m := m) (w := w) (by omega) (by omega) (nI (K 7 (m * 6 + w))) ((hr).t 7 (by decide) (by omega))) rfl rfl ((hL).2.2.2.2.1.1).1 rfl (by decide) (Nat.le_of_ble_eq_true rfl) ?_
  refine ce_istore dX0_changeOrder_9 (Nat.le_of_ble_eq_true rfl) rfl ?_
  refine ce_aload_n dX0_changeOrder_11 rfl ?_
  refine ce_getR dX0_changeOrder_12 fRX0_36 (hL).1 (hL).2.2.1.1 ?_
  refine ce_iload_n dX0_changeOrder_15 rfl ?_
  refine ce_iload_n dX0_changeOrder_16 rfl ?_
  refine ce_iload_n dX0_changeOrder_17 rfl ?_
  refine ce_cVu dX0_changeOrder_18 hX5_put kRX0_102 (m_X5_put _ (m) (w) (hL).2.2.2.2.1.1 (by omega) (by omega) (nI (n))) rfl rfl ((hL).2.2.2.2.1.1).1 rfl (by decide) (Nat.le_of_ble_eq_true rfl) (fun cg1 hcg1 => ?_)
  have rcg1 : ce_rC cg1 c (kv_up K 7 (m * 6 + w) (n)) O := by rw [hcg1]; exact (hr).up 7 (m * 6 + w) (n) (by decide) rfl
  have fcg1 : ce_fr c (c + 20) g cg1 := by rw [hcg1]; exact (ce_fr.rf).up _ _ (by omega)
  refine ce_iload dX0_changeOrder_21 rfl ?_
  refine ce_iret dX0_changeOrder_23 rfl rfl (by decide) (by decide) ?_
  exact ⟨_, rfl, rfl, rfl, rcg1, fcg1⟩
set_option maxHeartbeats 2000000 in
set_option maxRecDepth 20000 in
theorem m_X0_settle {σ : ce_S} {g : ce_D} (c : Nat) (K : ce_V) (O : Nat → Int32) (hL : ce_LC σ c) (hr : ce_rC g c K O) (hk : kv_cl K) (m : Nat) (hm : m < 6) : ce_CT (ce_r 0) mX0_settle [.ref (c), .int (nI (m))] σ g (ce_rv σ (fun r g' => r = O m ∧ ce_rC g' c K (upd O m 0) ∧ ce_fr c (c + 20) g g')) ce_no := by
  have hB := hk.i7
  have hM := hk.me
  have hW := hk.wi
  refine ce_enter (by decide) rfl (Nat.le_of_ble_eq_true rfl) (L := [some (.ref (c)), some (.int (nI (m))), none]) rfl ?_
  refine ce_aload_n dX0_settle_0 rfl ?_
  refine ce_getR dX0_settle_1 fRX0_15 (hL).1 (hL).2.1.2.1 ?_
  refine ce_iload_n dX0_settle_4 rfl ?_
  refine ce_ialdv dX0_settle_5 ((hL).2.2.2.1.2.1).1 rfl ((hL).2.2.2.1.2.1).2 (by omega) (by decide) ((hr).o (by omega)) ?_
  refine ce_istore_n dX0_settle_6 (Nat.le_of_ble_eq_true rfl) rfl ?_
  refine ce_aload_n dX0_settle_7 rfl ?_
  refine ce_getR dX0_settle_8 fRX0_15 (hL).1 (hL).2.1.2.1 ?_
  refine ce_iload_n dX0_settle_11 rfl ?_
  refine ce_iconst (v := nI (0)) dX0_settle_12 (by decide) ?_
  refine ce_iast dX0_settle_13 ((hL).2.2.2.1.2.1).1 rfl ((hL).2.2.2.1.2.1).2 (by omega) (by decide) ?_
  generalize hcg1 : ce_up g (c + 2) (m) (nI (0)) = cg1
  have rcg1 : ce_rC cg1 c K (upd O (m) (nI (0))) := hcg1 ▸ (hr).upo (m) (nI (0))
  have fcg1 : ce_fr c (c + 20) g cg1 := hcg1 ▸ (ce_fr.rf).up _ _ (by omega)
  refine ce_iload_n dX0_settle_14 rfl ?_
  refine ce_iret dX0_settle_15 rfl rfl (by decide) (by decide) ?_
  exact ⟨_, rfl, rfl, rfl, rcg1, fcg1⟩
set_option maxHeartbeats 2000000 in
set_option maxRecDepth 20000 in
theorem m_X0_drinkUp {σ : ce_S} {g : ce_D} (c : Nat) (K : ce_V) (O : Nat → Int32) (hL : ce_LC σ c) (hr : ce_rC g c K O) (hk : kv_cl K) (m w n : Nat) (hm : m < 6) (hw : w < 6) (hn : 0 < n ∧ n ≤ K 9 (m * 6 + w)) (h9 : K 9 (m * 6 + w) ≤ 60) : ce_CT (ce_r 2) mX0_drinkUp [.ref (c), .int (nI (m)), .int (nI (w)), .int (nI (n))] σ g (ce_rv σ (fun r g' => r = nI (K 9 (m * 6 + w) - n) ∧ ce_rC g' c (kv_dri K m w n) O ∧ ce_fr c (c + 20) g g')) ce_no := by
  have hB := hk.i7
  have hM := hk.me
  have hW := hk.wi
  refine ce_enter (by decide) rfl (Nat.le_of_ble_eq_true rfl) (L := [some (.ref (c)), some (.int (nI (m))), some (.int (nI (w))), some (.int (nI (n)))]) rfl ?_
  refine ce_aload_n dX0_drinkUp_0 rfl ?_
  refine ce_getR dX0_drinkUp_1 fRX0_52 (hL).1 (hL).2.2.1.2.2.2.2 ?_
  refine ce_iload_n dX0_drinkUp_4 rfl ?_
  refine ce_iload_n dX0_drinkUp_5 rfl ?_
  refine ce_cVu dX0_drinkUp_6 hX3_take kRX0_132 (m_X3_take _ K (hL).2.2.2.2.2 (hr).k hk.rk (w) (n) (by omega) (by omega)) rfl rfl ((hL).2.2.2.2.2).1 rfl (by decide) (Nat.le_of_ble_eq_true rfl) (fun cg1 hcg1 => ?_)
  have rcg1 : ce_rC cg1 c (kv_take (w) (K 0 2) (n) K) O := (hr).rk hcg1.1 hcg1.2 kv_eq_take
  have fcg1 : ce_fr c (c + 20) g cg1 := (ce_fr.rf).tr (hcg1.2.wk ⟨by omega, by omega⟩)
  have kcg1 : kv_rk (kv_take (w) (K 0 2) (n) K) := kv_rk_take hk.rk
  refine ce_aload_n dX0_drinkUp_9 rfl ?_
  refine ce_getR dX0_drinkUp_10 fRX0_43 (hL).1 (hL).2.2.1.2.2.1 ?_
  refine ce_iload_n dX0_drinkUp_13 rfl ?_
  refine ce_iload_n dX0_drinkUp_14 rfl ?_
  refine ce_iload_n dX0_drinkUp_15 rfl ?_
  refine ce_ineg (z := -(nI (n))) dX0_drinkUp_16 rfl ?_
  have e8 : (kv_take (w) (K 0 2) (n) K) 9 (m * 6 + w) = K 9 (m * 6 + w) := kv_take_ne (by decide)
  refine ce_cVu dX0_drinkUp_17 hX5_add kRX0_110 (m_X5_add _ (m) (w) (hL).2.2.2.2.1.2.2.1 (by omega) (by omega) (-(nI (n)))) rfl rfl ((hL).2.2.2.2.1.2.2.1).1 rfl (by decide) (Nat.le_of_ble_eq_true rfl) (fun cg2 hcg2 => ?_)
  rw [show cg1 (c + 12 + 1) (m * 6 + w) = nI ((kv_take (w) (K 0 2) (n) K) 9 (m * 6 + w)) from (rcg1).t 9 (by decide) (by omega), sub_nI (by omega)] at hcg2
  have rcg2 : ce_rC cg2 c (kv_up (kv_take (w) (K 0 2) (n) K) 9 (m * 6 + w) ((kv_take (w) (K 0 2) (n) K) 9 (m * 6 + w) - n)) O := by rw [hcg2]; exact (rcg1).up 9 (m * 6 + w) ((kv_take (w) (K 0 2) (n) K) 9 (m * 6 + w) - n) (by decide) rfl
  have fcg2 : ce_fr c (c + 20) g cg2 := by rw [hcg2]; exact (fcg1).up _ _ (by omega)
  refine ce_aload_n dX0_drinkUp_20 rfl ?_
  refine ce_getR dX0_drinkUp_21 fRX0_46 (hL).1 (hL).2.2.1.2.2.2.1 ?_
  refine ce_iload_n dX0_drinkUp_24 rfl ?_
  refine ce_iload_n dX0_drinkUp_25 rfl ?_
  refine ce_iload_n dX0_drinkUp_26 rfl ?_
  refine ce_cVu dX0_drinkUp_27 hX5_add kRX0_110 (m_X5_add _ (m) (w) (hL).2.2.2.2.1.2.2.2 (by omega) (by omega) (nI (n))) rfl rfl ((hL).2.2.2.2.1.2.2.2).1 rfl (by decide) (Nat.le_of_ble_eq_true rfl) (fun cg3 hcg3 => ?_)
  rw [show cg2 (c + 14 + 1) (m * 6 + w) = nI ((kv_up (kv_take (w) (K 0 2) (n) K) 9 (m * 6 + w) ((kv_take (w) (K 0 2) (n) K) 9 (m * 6 + w) - n)) 10 (m * 6 + w)) from (rcg2).t 10 (by decide) (by omega), nI_add _ _] at hcg3
  have rcg3 : ce_rC cg3 c (kv_up (kv_up (kv_take (w) (K 0 2) (n) K) 9 (m * 6 + w) ((kv_take (w) (K 0 2) (n) K) 9 (m * 6 + w) - n)) 10 (m * 6 + w) ((kv_up (kv_take (w) (K 0 2) (n) K) 9 (m * 6 + w) ((kv_take (w) (K 0 2) (n) K) 9 (m * 6 + w) - n)) 10 (m * 6 + w) + n)) O := by rw [hcg3]; exact (rcg2).up 10 (m * 6 + w) ((kv_up (kv_take (w) (K 0 2) (n) K) 9 (m * 6 + w) ((kv_take (w) (K 0 2) (n) K) 9 (m * 6 + w) - n)) 10 (m * 6 + w) + n) (by decide) rfl
  have fcg3 : ce_fr c (c + 20) g cg3 := by rw [hcg3]; exact (fcg2).up _ _ (by omega)
  refine ce_aload_n dX0_drinkUp_30 rfl ?_
  refine ce_getR dX0_drinkUp_31 fRX0_43 (hL).1 (hL).2.2.1.2.2.1 ?_
  refine ce_iload_n dX0_drinkUp_34 rfl ?_
  refine ce_iload_n dX0_drinkUp_35 rfl ?_
  refine ce_cVp dX0_drinkUp_36 hX5_of kRX0_94 (n_X5_of (hL).2.2.2.2.1.2.2.1 (m := m) (w := w) (by omega) (by omega) (nI ((kv_up (kv_up (kv_take (w) (K 0 2) (n) K) 9 (m * 6 + w) ((kv_take (w) (K 0 2) (n) K) 9 (m * 6 + w) - n)) 10 (m * 6 + w) ((kv_up (kv_take (w) (K 0 2) (n) K) 9 (m * 6 + w) ((kv_take (w) (K 0 2) (n) K) 9 (m * 6 + w) - n)) 10 (m * 6 + w) + n)) 9 (m * 6 + w))) ((rcg3).t 9 (by decide) (by omega))) rfl rfl ((hL).2.2.2.2.1.2.2.1).1 rfl (by decide) (Nat.le_of_ble_eq_true rfl) ?_
  refine ce_iret dX0_drinkUp_39 rfl rfl (by decide) (by decide) ?_
  have eK : (kv_up (kv_up (kv_take (w) (K 0 2) (n) K) 9 (m * 6 + w) ((kv_take (w) (K 0 2) (n) K) 9 (m * 6 + w) - n)) 10 (m * 6 + w) ((kv_up (kv_take (w) (K 0 2) (n) K) 9 (m * 6 + w) ((kv_take (w) (K 0 2) (n) K) 9 (m * 6 + w) - n)) 10 (m * 6 + w) + n)) = (kv_dri K m w n) := by unfold kv_dri; rw [kv_take_ne (by decide), kv_up_ne (by decide), kv_take_ne (by decide)]
  have eO : O = O := rfl
  exact ⟨_, rfl, rfl, congrArg nI (by rw [kv_up_ne (by decide), kv_up_eq, kv_take_ne (by decide)]), eK ▸ eO ▸ rcg3, fcg3⟩
set_option maxHeartbeats 2000000 in
set_option maxRecDepth 20000 in
theorem m_X0_handOver {σ : ce_S} {g : ce_D} (c : Nat) (K : ce_V) (O : Nat → Int32) (hL : ce_LC σ c) (hr : ce_rC g c K O) (hk : kv_cl K) (m o w n : Nat) (hm : m < 6) (ho : o < 6) (hw : w < 6) (hmo : m ≠ o) (hn : n ≤ K 9 (m * 6 + w)) : ce_CT (ce_r 1) mX0_handOver [.ref (c), .int (nI (m)), .int (nI (o)), .int (nI (w)), .int (nI (n))] σ g (ce_rv σ (fun r g' => r = nI (K 9 (o * 6 + w) + n) ∧ ce_rC g' c (kv_han K m o w n) O ∧ ce_fr c (c + 20) g g')) ce_no := by
  have hB := hk.i7
  have hM := hk.me
  have hW := hk.wi
  refine ce_enter (by decide) rfl (Nat.le_of_ble_eq_true rfl) (L := [some (.ref (c)), some (.int (nI (m))), some (.int (nI (o))), some (.int (nI (w))), some (.int (nI (n)))]) rfl ?_
  refine ce_aload_n dX0_handOver_0 rfl ?_
  refine ce_getR dX0_handOver_1 fRX0_43 (hL).1 (hL).2.2.1.2.2.1 ?_
  refine ce_iload_n dX0_handOver_4 rfl ?_
  refine ce_iload_n dX0_handOver_5 rfl ?_
  refine ce_iload dX0_handOver_6 rfl ?_
  refine ce_ineg (z := -(nI (n))) dX0_handOver_8 rfl ?_
  refine ce_cVu dX0_handOver_9 hX5_add kRX0_110 (m_X5_add _ (m) (w) (hL).2.2.2.2.1.2.2.1 (by omega) (by omega) (-(nI (n)))) rfl rfl ((hL).2.2.2.2.1.2.2.1).1 rfl (by decide) (Nat.le_of_ble_eq_true rfl) (fun cg1 hcg1 => ?_)
  rw [show g (c + 12 + 1) (m * 6 + w) = nI (K 9 (m * 6 + w)) from (hr).t 9 (by decide) (by omega), sub_nI (by omega)] at hcg1
  have rcg1 : ce_rC cg1 c (kv_up K 9 (m * 6 + w) (K 9 (m * 6 + w) - n)) O := by rw [hcg1]; exact (hr).up 9 (m * 6 + w) (K 9 (m * 6 + w) - n) (by decide) rfl
  have fcg1 : ce_fr c (c + 20) g cg1 := by rw [hcg1]; exact (ce_fr.rf).up _ _ (by omega)
  refine ce_aload_n dX0_handOver_12 rfl ?_
  refine ce_getR dX0_handOver_13 fRX0_43 (hL).1 (hL).2.2.1.2.2.1 ?_
  refine ce_iload_n dX0_handOver_16 rfl ?_
  refine ce_iload_n dX0_handOver_17 rfl ?_
  refine ce_iload dX0_handOver_18 rfl ?_
  refine ce_cVu dX0_handOver_20 hX5_add kRX0_110 (m_X5_add _ (o) (w) (hL).2.2.2.2.1.2.2.1 (by omega) (by omega) (nI (n))) rfl rfl ((hL).2.2.2.2.1.2.2.1).1 rfl (by decide) (Nat.le_of_ble_eq_true rfl) (fun cg2 hcg2 => ?_)
  rw [show cg1 (c + 12 + 1) (o * 6 + w) = nI ((kv_up K 9 (m * 6 + w) (K 9 (m * 6 + w) - n)) 9 (o * 6 + w)) from (rcg1).t 9 (by decide) (by omega), nI_add _ _] at hcg2
  have rcg2 : ce_rC cg2 c (kv_up (kv_up K 9 (m * 6 + w) (K 9 (m * 6 + w) - n)) 9 (o * 6 + w) ((kv_up K 9 (m * 6 + w) (K 9 (m * 6 + w) - n)) 9 (o * 6 + w) + n)) O := by rw [hcg2]; exact (rcg1).up 9 (o * 6 + w) ((kv_up K 9 (m * 6 + w) (K 9 (m * 6 + w) - n)) 9 (o * 6 + w) + n) (by decide) rfl
  have fcg2 : ce_fr c (c + 20) g cg2 := by rw [hcg2]; exact (fcg1).up _ _ (by omega)
  refine ce_aload_n dX0_handOver_23 rfl ?_
  refine ce_getR dX0_handOver_24 fRX0_43 (hL).1 (hL).2.2.1.2.2.1 ?_
  refine ce_iload_n dX0_handOver_27 rfl ?_
  refine ce_iload_n dX0_handOver_28 rfl ?_
  refine ce_cVp dX0_handOver_29 hX5_of kRX0_94 (n_X5_of (hL).2.2.2.2.1.2.2.1 (m := o) (w := w) (by omega) (by omega) (nI ((kv_up (kv_up K 9 (m * 6 + w) (K 9 (m * 6 + w) - n)) 9 (o * 6 + w) ((kv_up K 9 (m * 6 + w) (K 9 (m * 6 + w) - n)) 9 (o * 6 + w) + n)) 9 (o * 6 + w))) ((rcg2).t 9 (by decide) (by omega))) rfl rfl ((hL).2.2.2.2.1.2.2.1).1 rfl (by decide) (Nat.le_of_ble_eq_true rfl) ?_
  refine ce_iret dX0_handOver_32 rfl rfl (by decide) (by decide) ?_
  have eK : (kv_up (kv_up K 9 (m * 6 + w) (K 9 (m * 6 + w) - n)) 9 (o * 6 + w) ((kv_up K 9 (m * 6 + w) (K 9 (m * 6 + w) - n)) 9 (o * 6 + w) + n)) = (kv_han K m o w n) := by unfold kv_han; rw [kv_up_j (a := 9) (b := 9) (i := m * 6 + w) (by omega)]
  have eO : O = O := rfl
  exact ⟨_, rfl, rfl, congrArg nI (by rw [kv_up_eq, kv_up_j (by omega)]), eK ▸ eO ▸ rcg2, fcg2⟩
theorem ce_rC_eq {g : ce_D} {c : Nat} {K K2 : ce_V} {O O2 : Nat → Int32} (h : ce_rC g c K O) (e : K = K2) (e2 : O = O2) : ce_rC g c K2 O2 := e ▸ e2 ▸ h
set_option maxHeartbeats 2000000 in
set_option maxRecDepth 20000 in
theorem m_X0_replaceCorked {σ : ce_S} {g : ce_D} (c : Nat) (K : ce_V) (O : Nat → Int32) (hL : ce_LC σ c) (hr : ce_rC g c K O) (hk : kv_cl K) (m w : Nat) (hm : m < 6) (hw : w < 6) (h9 : 0 < K 9 (m * 6 + w)) : ce_CT (ce_r 3) mX0_replaceCorked [.ref (c), .int (nI (m)), .int (nI (w))] σ g (ce_rv σ (fun r g' => r = (if 0 < K 4 w then 1 else 0) ∧ ce_rC g' c (kv_cor K m w) (ko_cor K m w O) ∧ ce_fr c (c + 20) g g')) ce_no := by
  have hB := hk.i7
  have hM := hk.me
  have hW := hk.wi
  have hl := hk.le (m := m) (w := w) (by omega) (by omega)
  have hp := hk.pr w
  refine ce_enter (by decide) rfl (Nat.le_of_ble_eq_true rfl) (L := [some (.ref (c)), some (.int (nI (m))), some (.int (nI (w)))]) rfl ?_
  refine ce_aload_n dX0_replaceCorked_0 rfl ?_
  refine ce_getR dX0_replaceCorked_1 fRX0_52 (hL).1 (hL).2.2.1.2.2.2.2 ?_
  refine ce_iload_n dX0_replaceCorked_4 rfl ?_
  refine ce_iconst (v := nI (1)) dX0_replaceCorked_5 (by decide) ?_
  refine ce_cVu dX0_replaceCorked_6 hX3_take kRX0_132 (m_X3_take _ K (hL).2.2.2.2.2 (hr).k hk.rk (w) (1) (by omega) (by omega)) rfl rfl ((hL).2.2.2.2.2).1 rfl (by decide) (Nat.le_of_ble_eq_true rfl) (fun cg1 hcg1 => ?_)
  have rcg1 : ce_rC cg1 c (kv_take (w) (K 0 2) (1) K) O := (hr).rk hcg1.1 hcg1.2 kv_eq_take
  have fcg1 : ce_fr c (c + 20) g cg1 := (ce_fr.rf).tr (hcg1.2.wk ⟨by omega, by omega⟩)
  have kcg1 : kv_rk (kv_take (w) (K 0 2) (1) K) := kv_rk_take hk.rk
  refine ce_aload_n dX0_replaceCorked_9 rfl ?_
  refine ce_getR dX0_replaceCorked_10 fRX0_30 (hL).1 (hL).2.1.2.2.2.2.2.2 ?_
  refine ce_iload_n dX0_replaceCorked_13 rfl ?_
  refine ce_dup2 dX0_replaceCorked_14 rfl rfl ?_
  refine ce_ialdv dX0_replaceCorked_15 ((hL).2.2.2.1.2.2.2.2.2.2).1 rfl ((hL).2.2.2.1.2.2.2.2.2.2).2 (by omega) (by decide) ((rcg1).r 6 (by decide) (by omega)) ?_
  refine ce_iconst (v := nI (1)) dX0_replaceCorked_16 (by decide) ?_
  refine ce_iadd (z := nI ((kv_take (w) (K 0 2) (1) K) 6 (w) + 1)) dX0_replaceCorked_17 (nI_add _ _) ?_
  refine ce_iast dX0_replaceCorked_18 ((hL).2.2.2.1.2.2.2.2.2.2).1 rfl ((hL).2.2.2.1.2.2.2.2.2.2).2 (by omega) (by decide) ?_
  generalize hcg2 : ce_up cg1 (c + 7) (w) (nI ((kv_take (w) (K 0 2) (1) K) 6 (w) + 1)) = cg2
  have rcg2 : ce_rC cg2 c (kv_up (kv_take (w) (K 0 2) (1) K) 6 (w) ((kv_take (w) (K 0 2) (1) K) 6 (w) + 1)) O := hcg2 ▸ (rcg1).up 6 (w) ((kv_take (w) (K 0 2) (1) K) 6 (w) + 1) (by decide) rfl
  have fcg2 : ce_fr c (c + 20) g cg2 := hcg2 ▸ (fcg1).up _ _ (by omega)
  have e8 : (kv_up (kv_take (w) (K 0 2) (1) K) 6 (w) ((kv_take (w) (K 0 2) (1) K) 6 (w) + 1)) = kv_crk K w := by unfold kv_crk; rw [kv_take_ne (by decide)]
  rw [e8] at rcg2
  have e4 : kv_crk K w 4 w = K 4 w := by unfold kv_crk; rw [kv_up_ne (by decide), kv_take_ne (by decide)]
  have e0 : kv_crk K w 0 2 = K 0 2 := by unfold kv_crk; rw [kv_up_ne (by decide), kv_take_ne (by decide)]
  have e2 : kv_crk K w 2 w = K 2 w := by unfold kv_crk; rw [kv_up_ne (by decide), kv_take_ne (by decide)]
  have e9 : kv_crk K w 9 (m * 6 + w) = K 9 (m * 6 + w) := by unfold kv_crk; rw [kv_up_ne (by decide), kv_take_ne (by decide)]
  have k0 : kv_c0 (kv_crk K w) := hk.c0.take.ne (by decide)
  refine ce_aload_n dX0_replaceCorked_19 rfl ?_
  refine ce_getR dX0_replaceCorked_20 fRX0_24 (hL).1 (hL).2.1.2.2.2.2.1 ?_
  refine ce_iload_n dX0_replaceCorked_23 rfl ?_
  refine ce_ialdv dX0_replaceCorked_24 ((hL).2.2.2.1.2.2.2.2.1).1 rfl ((hL).2.2.2.1.2.2.2.2.1).2 (by omega) (by decide) ((rcg2).r 4 (by decide) (by omega)) ?_
  refine ce_if_leN (tgt := 49) dX0_replaceCorked_25 (by decide) rfl (by omega) (fun c_25 => ?_) (fun c_25 => ?_)
  · refine ce_aload_n dX0_replaceCorked_49 rfl ?_
    refine ce_getR dX0_replaceCorked_50 fRX0_43 (hL).1 (hL).2.2.1.2.2.1 ?_
    refine ce_iload_n dX0_replaceCorked_53 rfl ?_
    refine ce_iload_n dX0_replaceCorked_54 rfl ?_
    refine ce_iconst (v := (-1)) dX0_replaceCorked_55 (by decide) ?_
    refine ce_cVu dX0_replaceCorked_56 hX5_add kRX0_110 (m_X5_add _ (m) (w) (hL).2.2.2.2.1.2.2.1 (by omega) (by omega) ((-1))) rfl rfl ((hL).2.2.2.2.1.2.2.1).1 rfl (by decide) (Nat.le_of_ble_eq_true rfl) (fun cg3 hcg3 => ?_)
    rw [show cg2 (c + 12 + 1) (m * 6 + w) = nI ((kv_crk K w) 9 (m * 6 + w)) from (rcg2).t 9 (by decide) (by omega), sub_1 (by omega)] at hcg3
    have rcg3 : ce_rC cg3 c (kv_up (kv_crk K w) 9 (m * 6 + w) ((kv_crk K w) 9 (m * 6 + w) - 1)) O := by rw [hcg3]; exact (rcg2).up 9 (m * 6 + w) ((kv_crk K w) 9 (m * 6 + w) - 1) (by decide) rfl
    have fcg3 : ce_fr c (c + 20) g cg3 := by rw [hcg3]; exact (fcg2).up _ _ (by omega)
    refine ce_aload_n dX0_replaceCorked_59 rfl ?_
    refine ce_getR dX0_replaceCorked_60 fRX0_15 (hL).1 (hL).2.1.2.1 ?_
    refine ce_iload_n dX0_replaceCorked_63 rfl ?_
    refine ce_dup2 dX0_replaceCorked_64 rfl rfl ?_
    refine ce_ialdv dX0_replaceCorked_65 ((hL).2.2.2.1.2.1).1 rfl ((hL).2.2.2.1.2.1).2 (by omega) (by decide) ((rcg3).o (by omega)) ?_
    refine ce_aload_n dX0_replaceCorked_66 rfl ?_
    refine ce_getR dX0_replaceCorked_67 fRX0_18 (hL).1 (hL).2.1.2.2.1 ?_
    refine ce_iload_n dX0_replaceCorked_70 rfl ?_
    refine ce_ialdv dX0_replaceCorked_71 ((hL).2.2.2.1.2.2.1).1 rfl ((hL).2.2.2.1.2.2.1).2 (by omega) (by decide) ((rcg3).r 2 (by decide) (by omega)) ?_
    refine ce_isub (z := (O (m)) - (nI ((kv_up (kv_crk K w) 9 (m * 6 + w) ((kv_crk K w) 9 (m * 6 + w) - 1)) 2 (w)))) dX0_replaceCorked_72 rfl ?_
    refine ce_iast dX0_replaceCorked_73 ((hL).2.2.2.1.2.1).1 rfl ((hL).2.2.2.1.2.1).2 (by omega) (by decide) ?_
    generalize hcg4 : ce_up cg3 (c + 2) (m) ((O (m)) - (nI ((kv_up (kv_crk K w) 9 (m * 6 + w) ((kv_crk K w) 9 (m * 6 + w) - 1)) 2 (w)))) = cg4
    have rcg4 : ce_rC cg4 c (kv_up (kv_crk K w) 9 (m * 6 + w) ((kv_crk K w) 9 (m * 6 + w) - 1)) (upd O (m) ((O (m)) - (nI ((kv_up (kv_crk K w) 9 (m * 6 + w) ((kv_crk K w) 9 (m * 6 + w) - 1)) 2 (w))))) := hcg4 ▸ (rcg3).upo (m) ((O (m)) - (nI ((kv_up (kv_crk K w) 9 (m * 6 + w) ((kv_crk K w) 9 (m * 6 + w) - 1)) 2 (w))))
    have fcg4 : ce_fr c (c + 20) g cg4 := hcg4 ▸ (fcg3).up _ _ (by omega)
    refine ce_iconst (v := nI (0)) dX0_replaceCorked_74 (by decide) ?_
    refine ce_iret dX0_replaceCorked_75 rfl rfl (by decide) (by decide) ?_
    have eK : (kv_up (kv_crk K w) 9 (m * 6 + w) ((kv_crk K w) 9 (m * 6 + w) - 1)) = kv_cor K m w := by unfold kv_cor; rw [if_neg (by omega), e9]
    have eO : (upd O (m) ((O (m)) - (nI ((kv_up (kv_crk K w) 9 (m * 6 + w) ((kv_crk K w) 9 (m * 6 + w) - 1)) 2 (w))))) = ko_cor K m w O := by unfold ko_cor; rw [if_neg (by omega), kv_up_ne (by decide), e2]
    exact ⟨_, rfl, rfl, (if_neg (by omega)).symm, (ce_rC_eq rcg4 eK eO), fcg4⟩
  · refine ce_aload_n dX0_replaceCorked_28 rfl ?_
    refine ce_getR dX0_replaceCorked_29 fRX0_24 (hL).1 (hL).2.1.2.2.2.2.1 ?_
    refine ce_iload_n dX0_replaceCorked_32 rfl ?_
    refine ce_dup2 dX0_replaceCorked_33 rfl rfl ?_
    refine ce_ialdv dX0_replaceCorked_34 ((hL).2.2.2.1.2.2.2.2.1).1 rfl ((hL).2.2.2.1.2.2.2.2.1).2 (by omega) (by decide) ((rcg2).r 4 (by decide) (by omega)) ?_
    refine ce_iconst (v := nI (1)) dX0_replaceCorked_35 (by decide) ?_
    refine ce_isub (z := nI (K 4 w - 1)) dX0_replaceCorked_36 (by rw [e4]; exact pk_sub (by omega)) ?_
    refine ce_iast dX0_replaceCorked_37 ((hL).2.2.2.1.2.2.2.2.1).1 rfl ((hL).2.2.2.1.2.2.2.2.1).2 (by omega) (by decide) ?_
    generalize hcg3 : ce_up cg2 (c + 5) (w) (nI (K 4 w - 1)) = cg3
    have rcg3 : ce_rC cg3 c (kv_up (kv_crk K w) 4 (w) (K 4 w - 1)) O := hcg3 ▸ (rcg2).up 4 (w) (K 4 w - 1) (by decide) rfl
    have fcg3 : ce_fr c (c + 20) g cg3 := hcg3 ▸ (fcg2).up _ _ (by omega)
    have k1 : kv_c0 (kv_up (kv_crk K w) 4 (w) (K 4 w - 1)) := k0.ne (by decide)
    refine ce_aload_n dX0_replaceCorked_38 rfl ?_
    refine ce_getR dX0_replaceCorked_39 fRX0_52 (hL).1 (hL).2.2.1.2.2.2.2 ?_
    refine ce_iload_n dX0_replaceCorked_42 rfl ?_
    refine ce_iconst (v := nI (1)) dX0_replaceCorked_43 (by decide) ?_
    refine ce_cVu dX0_replaceCorked_44 hX3_lay kRX0_128 (m_X3_lay _ (kv_up (kv_crk K w) 4 (w) (K 4 w - 1)) (hL).2.2.2.2.2 (rcg3).k k1.rk (w) (1) (by omega) (by omega)) rfl rfl ((hL).2.2.2.2.2).1 rfl (by decide) (Nat.le_of_ble_eq_true rfl) (fun cg4 hcg4 => ?_)
    have rcg4 : ce_rC cg4 c (kv_lay (w) ((kv_up (kv_crk K w) 4 (w) (K 4 w - 1)) 0 2) (1) (kv_up (kv_crk K w) 4 (w) (K 4 w - 1))) O := (rcg3).rk hcg4.1 hcg4.2 kv_eq_lay
    have fcg4 : ce_fr c (c + 20) g cg4 := (fcg3).tr (hcg4.2.wk ⟨by omega, by omega⟩)
    have kcg4 : kv_rk (kv_lay (w) ((kv_up (kv_crk K w) 4 (w) (K 4 w - 1)) 0 2) (1) (kv_up (kv_crk K w) 4 (w) (K 4 w - 1))) := kv_rk_lay (by omega) k1.rk
    refine ce_iconst (v := nI (1)) dX0_replaceCorked_47 (by decide) ?_
    refine ce_iret dX0_replaceCorked_48 rfl rfl (by decide) (by decide) ?_
    have eK : (kv_lay (w) ((kv_up (kv_crk K w) 4 (w) (K 4 w - 1)) 0 2) (1) (kv_up (kv_crk K w) 4 (w) (K 4 w - 1))) = kv_cor K m w := by unfold kv_cor kv_cor1; rw [if_pos (by omega), kv_up_ne (by decide), e0]
    have eO : O = ko_cor K m w O := by unfold ko_cor; rw [if_pos (by omega)]
    exact ⟨_, rfl, rfl, (if_pos (by omega)).symm, (ce_rC_eq rcg4 eK eO), fcg4⟩
theorem n_X0_paidAhead {σ : ce_S} {g : ce_D} (c : Nat) (K : ce_V) (O : Nat → Int32) (hL : ce_LC σ c) (hr : ce_rC g c K O) (hk : kv_c0 K) (w n : Nat) (hw : w < 6) (hn : n ≤ 1000) (v : Nat) (hv : kv_half K w n = v) : ce_CT (ce_r 0) mX0_paidAhead [.ref (c), .int (nI (w)), .int (nI (n))] σ g (ce_pv (nI v) σ g) ce_no := hv ▸ m_X0_paidAhead c K O hL hr hk w n hw hn
theorem kv_c0_del {w n : Nat} {K : ce_V} (h : kv_c0 K) : kv_c0 (kv_del w n K) := by
  induction n with
  | zero => exact h
  | succ n ih => exact (ih.ne (by decide)).ne (by decide)
theorem kv_c0_end {w n : Nat} {K : ce_V} (h : kv_c0 K) : kv_c0 (kv_end w n K) := by
  induction n with
  | zero => exact h
  | succ n ih => exact (ih.p (Nat.min_le_left _ _)).ne (by decide)
theorem ko_del_s {K : ce_V} {w i : Nat} {O : Nat → Int32} {x : Int32} (h : x = O i + nI (K 2 w * K 8 (i * 6 + w) - kv_half K w (K 8 (i * 6 + w)))) : upd (ko_del K w i O) i x = ko_del K w (i + 1) O := by
  funext j
  unfold upd ko_del
  by_cases e : j = i
  · rw [if_pos e, if_pos (by omega), h, e]
  · rw [if_neg e]
    by_cases e2 : j < i
    · rw [if_pos e2, if_pos (by omega)]
    · rw [if_neg e2, if_neg (by omega)]
theorem ko_end_s {K : ce_V} {w i : Nat} {O : Nat → Int32} {x : Int32} (h : x = O i + nI (kv_half K w (K 8 (i * 6 + w)))) : upd (ko_end K w i O) i x = ko_end K w (i + 1) O := by
  funext j
  unfold upd ko_end
  by_cases e : j = i
  · rw [if_pos e, if_pos (by omega), h, e]
  · rw [if_neg e]
    by_cases e2 : j < i
    · rw [if_pos e2, if_pos (by omega)]
    · rw [if_neg e2, if_neg (by omega)]
set_option maxHeartbeats 2000000 in
set_option maxRecDepth 20000 in
theorem w_X0_bringIn {σ : ce_S} (c : Nat) (T : ce_V) (O : Nat → Int32) (hL : ce_LC σ c) (hk : kv_c0 T) (g0 : ce_D) (nm w s : Nat) (hm6 : nm ≤ 6) (hT : T 0 0 = nm) (hw : w < 6) (h8 : ∀ m, T 8 (m * 6 + w) ≤ 60) : ∀ (n9 : Nat) (g : ce_D) (i : Nat), nm - i < n9 → i ≤ nm → ce_rC g c (kv_del w i T) (ko_del T w i O) → ce_fr c (c + 20) g0 g → ce_WP (ce_r 3) mX0_bringIn 0 0 20 [some (.ref (c)), some (.int (nI (w))), some (.int (nI (s))), some (.int (nI (i))), none] [] σ g (ce_rv σ (fun r g' => r = nI s ∧ ce_rC g' c (kv_up (kv_del w nm T) 5 w 2) (ko_del T w nm O) ∧ ce_fr c (c + 20) g0 g')) ce_no := by
  intro n9
  induction n9 with
  | zero =>
    intros
    omega
  | succ n9 ih =>
    intro g i hm hi hr hf
    have hM := hm6
    have hT0 : (kv_del w i T) 0 0 = nm := (kv_del_ne (by decide)).trans hT
    have hc0 : kv_c0 (kv_del w i T) := kv_c0_del hk
    have hp := hk.pr w
    have hl := h8 i
    have hp2 : T 2 w * T 8 (i * 6 + w) ≤ 99 * 1000 := Nat.mul_le_mul hp (by omega)
    have hh : kv_half T w (T 8 (i * 6 + w)) ≤ T 2 w * T 8 (i * 6 + w) := by unfold kv_half; omega
    have e2 : kv_del w i T 2 w = T 2 w := kv_del_ne (by decide)
    refine ce_iload_n dX0_bringIn_20 rfl ?_
    refine ce_aload_n dX0_bringIn_21 rfl ?_
    refine ce_getIv dX0_bringIn_22 fRX0_56 (hL).1 (hr).1 ?_
    refine ce_icmp_geN (tgt := 92) dX0_bringIn_25 (by decide) rfl rfl (by omega) (by omega) (fun c_25 => ?_) (fun c_25 => ?_)
    · refine ce_aload_n dX0_bringIn_92 rfl ?_
      refine ce_getR dX0_bringIn_93 fRX0_27 (hL).1 (hL).2.1.2.2.2.2.2.1 ?_
      refine ce_iload_n dX0_bringIn_96 rfl ?_
      refine ce_iconst (v := nI (2)) dX0_bringIn_97 (by decide) ?_
      refine ce_iast dX0_bringIn_98 ((hL).2.2.2.1.2.2.2.2.2.1).1 rfl ((hL).2.2.2.1.2.2.2.2.2.1).2 (by omega) (by decide) ?_
      generalize hcg1 : ce_up g (c + 6) (w) (nI (2)) = cg1
      have rcg1 : ce_rC cg1 c (kv_up (kv_del w i T) 5 (w) (2)) (ko_del T w i O) := hcg1 ▸ (hr).up 5 (w) (2) (by decide) rfl
      have fcg1 : ce_fr c (c + 20) g0 cg1 := hcg1 ▸ (hf).up _ _ (by omega)
      refine ce_iload_n dX0_bringIn_99 rfl ?_
      refine ce_iret dX0_bringIn_100 rfl rfl (by decide) (by decide) ?_
      exact ⟨_, rfl, rfl, rfl, ce_rC_eq rcg1 (by rw [show i = nm by omega]) (by rw [show i = nm by omega]), fcg1⟩
    · refine ce_aload_n dX0_bringIn_28 rfl ?_
      refine ce_getR dX0_bringIn_29 fRX0_40 (hL).1 (hL).2.2.1.2.1 ?_
      refine ce_iload_n dX0_bringIn_32 rfl ?_
      refine ce_iload_n dX0_bringIn_33 rfl ?_
      refine ce_cVp dX0_bringIn_34 hX5_of kRX0_94 (n_X5_of (hL).2.2.2.2.1.2.1 (m := i) (w := w) (by omega) (by omega) (nI ((kv_del w i T) 8 (i * 6 + w))) ((hr).t 8 (by decide) (by omega))) rfl rfl ((hL).2.2.2.2.1.2.1).1 rfl (by decide) (Nat.le_of_ble_eq_true rfl) ?_
      refine ce_istore dX0_bringIn_37 (Nat.le_of_ble_eq_true rfl) rfl ?_
      rw [kv_del_8 hw (Nat.le_refl i)]
      refine ce_aload_n dX0_bringIn_39 rfl ?_
      refine ce_getR dX0_bringIn_40 fRX0_15 (hL).1 (hL).2.1.2.1 ?_
      refine ce_iload_n dX0_bringIn_43 rfl ?_
      refine ce_dup2 dX0_bringIn_44 rfl rfl ?_
      refine ce_ialdv dX0_bringIn_45 ((hL).2.2.2.1.2.1).1 rfl ((hL).2.2.2.1.2.1).2 (by omega) (by decide) ((hr.o (by omega)).trans (if_neg (Nat.lt_irrefl i))) ?_
      refine ce_aload_n dX0_bringIn_46 rfl ?_
      refine ce_getR dX0_bringIn_47 fRX0_18 (hL).1 (hL).2.1.2.2.1 ?_
      refine ce_iload_n dX0_bringIn_50 rfl ?_
      refine ce_ialdv dX0_bringIn_51 ((hL).2.2.2.1.2.2.1).1 rfl ((hL).2.2.2.1.2.2.1).2 (by omega) (by decide) ((hr.r 2 (by decide) hw).trans (congrArg nI e2)) ?_
      refine ce_iload dX0_bringIn_52 rfl ?_
      refine ce_imul (z := nI (T 2 w * T 8 (i * 6 + w))) dX0_bringIn_54 (pk_mul _ _) ?_
      refine ce_aload_n dX0_bringIn_55 rfl ?_
      refine ce_iload_n dX0_bringIn_56 rfl ?_
      refine ce_iload dX0_bringIn_57 rfl ?_
      refine ce_cVp dX0_bringIn_59 hX0_paidAhead kRX0_113 (n_X0_paidAhead c (kv_del w i T) (ko_del T w i O) hL hr hc0 (w) (T 8 (i * 6 + w)) (by omega) (by omega) (kv_half T w (T 8 (i * 6 + w))) (by unfold kv_half; rw [e2])) rfl rfl (hL).1 rfl (by decide) (Nat.le_of_ble_eq_true rfl) ?_
      refine ce_isub (z := nI (T 2 w * T 8 (i * 6 + w) - kv_half T w (T 8 (i * 6 + w)))) dX0_bringIn_62 (pk_sub (by omega)) ?_
      refine ce_iadd (z := (O i) + (nI (T 2 w * T 8 (i * 6 + w) - kv_half T w (T 8 (i * 6 + w))))) dX0_bringIn_63 rfl ?_
      refine ce_iast dX0_bringIn_64 ((hL).2.2.2.1.2.1).1 rfl ((hL).2.2.2.1.2.1).2 (by omega) (by decide) ?_
      generalize hcg1 : ce_up g (c + 2) (i) ((O i) + (nI (T 2 w * T 8 (i * 6 + w) - kv_half T w (T 8 (i * 6 + w))))) = cg1
      have rcg1 : ce_rC cg1 c (kv_del w i T) (upd (ko_del T w i O) (i) ((O i) + (nI (T 2 w * T 8 (i * 6 + w) - kv_half T w (T 8 (i * 6 + w)))))) := hcg1 ▸ (hr).upo (i) ((O i) + (nI (T 2 w * T 8 (i * 6 + w) - kv_half T w (T 8 (i * 6 + w)))))
      have fcg1 : ce_fr c (c + 20) g0 cg1 := hcg1 ▸ (hf).up _ _ (by omega)
      refine ce_aload_n dX0_bringIn_65 rfl ?_
      refine ce_getR dX0_bringIn_66 fRX0_43 (hL).1 (hL).2.2.1.2.2.1 ?_
      refine ce_iload_n dX0_bringIn_69 rfl ?_
      refine ce_iload_n dX0_bringIn_70 rfl ?_
      refine ce_iload dX0_bringIn_71 rfl ?_
      refine ce_cVu dX0_bringIn_73 hX5_put kRX0_102 (m_X5_put _ (i) (w) (hL).2.2.2.2.1.2.2.1 (by omega) (by omega) (nI (T 8 (i * 6 + w)))) rfl rfl ((hL).2.2.2.2.1.2.2.1).1 rfl (by decide) (Nat.le_of_ble_eq_true rfl) (fun cg2 hcg2 => ?_)
      have rcg2 : ce_rC cg2 c (kv_up (kv_del w i T) 9 (i * 6 + w) (T 8 (i * 6 + w))) (upd (ko_del T w i O) (i) ((O i) + (nI (T 2 w * T 8 (i * 6 + w) - kv_half T w (T 8 (i * 6 + w)))))) := by rw [hcg2]; exact (rcg1).up 9 (i * 6 + w) (T 8 (i * 6 + w)) (by decide) rfl
      have fcg2 : ce_fr c (c + 20) g0 cg2 := by rw [hcg2]; exact (fcg1).up _ _ (by omega)
      refine ce_aload_n dX0_bringIn_76 rfl ?_
      refine ce_getR dX0_bringIn_77 fRX0_40 (hL).1 (hL).2.2.1.2.1 ?_
      refine ce_iload_n dX0_bringIn_80 rfl ?_
      refine ce_iload_n dX0_bringIn_81 rfl ?_
      refine ce_iconst (v := nI (0)) dX0_bringIn_82 (by decide) ?_
      refine ce_cVu dX0_bringIn_83 hX5_put kRX0_102 (m_X5_put _ (i) (w) (hL).2.2.2.2.1.2.1 (by omega) (by omega) (nI (0))) rfl rfl ((hL).2.2.2.2.1.2.1).1 rfl (by decide) (Nat.le_of_ble_eq_true rfl) (fun cg3 hcg3 => ?_)
      have rcg3 : ce_rC cg3 c (kv_up (kv_up (kv_del w i T) 9 (i * 6 + w) (T 8 (i * 6 + w))) 8 (i * 6 + w) (0)) (upd (ko_del T w i O) (i) ((O i) + (nI (T 2 w * T 8 (i * 6 + w) - kv_half T w (T 8 (i * 6 + w)))))) := by rw [hcg3]; exact (rcg2).up 8 (i * 6 + w) (0) (by decide) rfl
      have fcg3 : ce_fr c (c + 20) g0 cg3 := by rw [hcg3]; exact (fcg2).up _ _ (by omega)
      refine ce_iinc (v := nI (i + 1)) dX0_bringIn_86 rfl (ce_inc1 _) (Nat.le_of_ble_eq_true rfl) rfl ?_
      refine ce_goto (tgt := 20) dX0_bringIn_89 (by decide) ?_
      refine ce_drop (L' := [some (.ref (c)), some (.int (nI (w))), some (.int (nI (s))), some (.int (nI (i + 1))), none]) (ce_le_s rfl (ce_le_s rfl (ce_le_s rfl (ce_le_s rfl (ce_le_n ce_le_e))))) ?_
      have eO : (upd (ko_del T w i O) (i) ((O i) + (nI (T 2 w * T 8 (i * 6 + w) - kv_half T w (T 8 (i * 6 + w)))))) = ko_del T w (i + 1) O := ko_del_s rfl
      exact ih cg3 (i + 1) (by omega) (by omega) (ce_rC_eq rcg3 rfl eO) fcg3
theorem kv_cl.l8 {K : ce_V} (h : kv_cl K) {w : Nat} (hw : w < 6) (m : Nat) : K 8 (m * 6 + w) ≤ 60 := by
  by_cases hm : m < 6
  · exact (h.le hm hw).1
  · have := h.me
    have := (h.zm m w hw (by omega)).2.2.1
    omega
set_option maxHeartbeats 2000000 in
set_option maxRecDepth 20000 in
theorem m_X0_bringIn {σ : ce_S} {g : ce_D} (c : Nat) (K : ce_V) (O : Nat → Int32) (hL : ce_LC σ c) (hr : ce_rC g c K O) (hk : kv_cl K) (w : Nat) (hw : w < 6) : ce_CT (ce_r 3) mX0_bringIn [.ref (c), .int (nI (w))] σ g (ce_rv σ (fun r g' => r = nI (kv_sum K 8 w) ∧ ce_rC g' c (kv_bri K w) (ko_bri K w O) ∧ ce_fr c (c + 20) g g')) ce_no := by
  have hB := hk.i7
  have hM := hk.me
  have hW := hk.wi
  have hb := hk.bo w hw
  refine ce_enter (by decide) rfl (Nat.le_of_ble_eq_true rfl) (L := [some (.ref (c)), some (.int (nI (w))), none, none, none]) rfl ?_
  refine ce_aload_n dX0_bringIn_0 rfl ?_
  refine ce_getR dX0_bringIn_1 fRX0_40 (hL).1 (hL).2.2.1.2.1 ?_
  refine ce_iload_n dX0_bringIn_4 rfl ?_
  refine ce_cVp dX0_bringIn_5 hX5_ofWine kRX0_91 (n_X5_ofWine (hL).2.2.2.2.1.2.1 (w := w) (by omega) (fun m => K 8 (m * 6 + w)) (fun m hm => (hr).t 8 (by decide) (by omega)) (kv_sum K 8 (w)) rfl) rfl rfl ((hL).2.2.2.2.1.2.1).1 rfl (by decide) (Nat.le_of_ble_eq_true rfl) ?_
  refine ce_istore_n dX0_bringIn_8 (Nat.le_of_ble_eq_true rfl) rfl ?_
  refine ce_aload_n dX0_bringIn_9 rfl ?_
  refine ce_getR dX0_bringIn_10 fRX0_52 (hL).1 (hL).2.2.1.2.2.2.2 ?_
  refine ce_iload_n dX0_bringIn_13 rfl ?_
  refine ce_iload_n dX0_bringIn_14 rfl ?_
  refine ce_cVu dX0_bringIn_15 hX3_lay kRX0_128 (m_X3_lay _ K (hL).2.2.2.2.2 (hr).k hk.rk (w) (kv_sum K 8 (w)) (by omega) (by omega)) rfl rfl ((hL).2.2.2.2.2).1 rfl (by decide) (Nat.le_of_ble_eq_true rfl) (fun cg1 hcg1 => ?_)
  have rcg1 : ce_rC cg1 c (kv_lay (w) (K 0 2) (kv_sum K 8 (w)) K) O := (hr).rk hcg1.1 hcg1.2 kv_eq_lay
  have fcg1 : ce_fr c (c + 20) g cg1 := (ce_fr.rf).tr (hcg1.2.wk ⟨by omega, by omega⟩)
  have kcg1 : kv_rk (kv_lay (w) (K 0 2) (kv_sum K 8 (w)) K) := kv_rk_lay (by omega) hk.rk
  refine ce_iconst (v := nI (0)) dX0_bringIn_18 (by decide) ?_
  refine ce_istore_n dX0_bringIn_19 (Nat.le_of_ble_eq_true rfl) rfl ?_
  refine ce_drop (L' := [some (.ref (c)), some (.int (nI (w))), some (.int (nI (kv_sum K 8 (w)))), some (.int (nI (0))), none]) (ce_le_s rfl (ce_le_s rfl (ce_le_s rfl (ce_le_s rfl (ce_le_n ce_le_e))))) ?_
  have h8 : ∀ m, kv_lay w (K 0 2) (kv_sum K 8 w) K 8 (m * 6 + w) ≤ 60 := fun m => by rw [kv_lay_ne (by decide) (by decide)]; exact hk.l8 hw m
  have eO : ko_del (kv_lay (w) (K 0 2) (kv_sum K 8 (w)) K) w (K 0 0) O = ko_bri K w O := by unfold ko_bri ko_del kv_half; simp only [kv_lay_ne (w := w) (t := K 0 2) (left := kv_sum K 8 w) (K := K) (a := 2) (by decide) (by decide), kv_lay_ne (w := w) (t := K 0 2) (left := kv_sum K 8 w) (K := K) (a := 8) (by decide) (by decide)]
  have e9 := w_X0_bringIn c (kv_lay (w) (K 0 2) (kv_sum K 8 (w)) K) O hL (hk.c0.lay hw) g (K 0 0) w (kv_sum K 8 w) hM (kv_lay_ne (by decide) (by decide)) hw h8 (K 0 0 + 1) cg1 0 (by omega) (by omega) rcg1 fcg1
  rw [eO] at e9
  exact e9
set_option maxHeartbeats 2000000 in
set_option maxRecDepth 20000 in
theorem w1_X0_shareOut {σ : ce_S} {Q : Option Value → ce_S → ce_D → Prop} {X : String → ce_S → ce_D → Prop} (c : Nat) (T : ce_V) (O : Nat → Int32) (hL : ce_LC σ c) (g0 : ce_D) (w : Nat) (hw : w < 6) (hc : ∀ g1 : ce_D, ce_rC g1 c T O → ce_fr c (c + 20) g0 g1 → ce_WP (ce_r 3) mX0_shareOut 0 0 58 [some (.ref (c)), some (.int (nI (w))), none, none] [] σ g1 Q X) : ∀ (n9 : Nat) (K : ce_V) (g : ce_D) (i : Nat), 60 - i < n9 → i ≤ 60 → ce_rC g c K O → kv_c0 K → (∀ m, m < 6 → K 8 (m * 6 + w) ≤ 60) → (∀ j, K 7 j ≤ 60) → K 4 w ≤ 60 → kv_share w (60 - i) K = T → ce_fr c (c + 20) g0 g → ce_WP (ce_r 3) mX0_shareOut 0 0 2 [some (.ref (c)), some (.int (nI (w))), some (.int (nI (i))), none] [] σ g Q X := by
  intro n9
  induction n9 with
  | zero =>
    intros
    omega
  | succ n9 ih =>
    intro K g i hm hi hr hk h8 h7 h4 hT hf
    have hB := hk.i7
    have hM := hk.me
    have hW := hk.wi
    have hl4 := h4
    cases hp : kv_next K w (K 0 0) with
    | none =>
      refine ce_iload_n dX0_shareOut_2 rfl ?_
      refine ce_bipush (v := nI (60)) dX0_shareOut_3 (by decide) ?_
      refine ce_icmp_geN (tgt := 58) dX0_shareOut_5 (by decide) rfl rfl (by omega) (by omega) (fun c_5 => ?_) (fun c_5 => ?_)
      · refine ce_drop (L' := [some (.ref (c)), some (.int (nI (w))), none, none]) (ce_le_s rfl (ce_le_s rfl (ce_le_n (ce_le_n ce_le_e)))) ?_
        exact hc g (ce_rC_eq hr (show K = T by rw [← hT, show 60 - i = 0 by omega]; rfl) rfl) hf
      · refine ce_aload_n dX0_shareOut_8 rfl ?_
        refine ce_getR dX0_shareOut_9 fRX0_24 (hL).1 (hL).2.1.2.2.2.2.1 ?_
        refine ce_iload_n dX0_shareOut_12 rfl ?_
        refine ce_ialdv dX0_shareOut_13 ((hL).2.2.2.1.2.2.2.2.1).1 rfl ((hL).2.2.2.1.2.2.2.2.1).2 (by omega) (by decide) ((hr).r 4 (by decide) (by omega)) ?_
        refine ce_if_leN (tgt := 58) dX0_shareOut_14 (by decide) rfl (by omega) (fun c_14 => ?_) (fun c_14 => ?_)
        · refine ce_drop (L' := [some (.ref (c)), some (.int (nI (w))), none, none]) (ce_le_s rfl (ce_le_s rfl (ce_le_n (ce_le_n ce_le_e)))) ?_
          exact hc g (ce_rC_eq hr (show K = T by rw [← hT, kv_share_z (by omega)]) rfl) hf
        · refine ce_aload_n dX0_shareOut_17 rfl ?_
          refine ce_iload_n dX0_shareOut_18 rfl ?_
          refine ce_cVp dX0_shareOut_19 hX0_nextToGet kRX0_106 (n_X0_nextToGet c K O hL hr hk w hw h8 h7 ((-99999)) (by rw [hp]; rfl)) rfl rfl (hL).1 rfl (by decide) (Nat.le_of_ble_eq_true rfl) ?_
          refine ce_istore_n dX0_shareOut_22 (Nat.le_of_ble_eq_true rfl) rfl ?_
          refine ce_iload_n dX0_shareOut_23 rfl ?_
          refine ce_ldc dX0_shareOut_24 kRX0_109 ?_
          refine ce_icmp_neI (p := (-99999)) (q := (-99999)) (tgt := 32) dX0_shareOut_26 (by decide) (by decide) (by decide) (fun c_26 => ?_) (fun c_26 => ?_)
          · omega
          · refine ce_goto (tgt := 58) dX0_shareOut_29 (by decide) ?_
            refine ce_drop (L' := [some (.ref (c)), some (.int (nI (w))), none, none]) (ce_le_s rfl (ce_le_s rfl (ce_le_n (ce_le_n ce_le_e)))) ?_
            exact hc g (ce_rC_eq hr (show K = T by rw [← hT, kv_share_none hp]) rfl) hf
    | some o =>
      have hc9 := kv_next_lt hp
      have ho8 := h8 o (by omega)
      have ho7 := h7 (o * 6 + w)
      refine ce_iload_n dX0_shareOut_2 rfl ?_
      refine ce_bipush (v := nI (60)) dX0_shareOut_3 (by decide) ?_
      refine ce_icmp_geN (tgt := 58) dX0_shareOut_5 (by decide) rfl rfl (by omega) (by omega) (fun c_5 => ?_) (fun c_5 => ?_)
      · refine ce_drop (L' := [some (.ref (c)), some (.int (nI (w))), none, none]) (ce_le_s rfl (ce_le_s rfl (ce_le_n (ce_le_n ce_le_e)))) ?_
        exact hc g (ce_rC_eq hr (show K = T by rw [← hT, show 60 - i = 0 by omega]; rfl) rfl) hf
      · refine ce_aload_n dX0_shareOut_8 rfl ?_
        refine ce_getR dX0_shareOut_9 fRX0_24 (hL).1 (hL).2.1.2.2.2.2.1 ?_
        refine ce_iload_n dX0_shareOut_12 rfl ?_
        refine ce_ialdv dX0_shareOut_13 ((hL).2.2.2.1.2.2.2.2.1).1 rfl ((hL).2.2.2.1.2.2.2.2.1).2 (by omega) (by decide) ((hr).r 4 (by decide) (by omega)) ?_
        refine ce_if_leN (tgt := 58) dX0_shareOut_14 (by decide) rfl (by omega) (fun c_14 => ?_) (fun c_14 => ?_)
        · refine ce_drop (L' := [some (.ref (c)), some (.int (nI (w))), none, none]) (ce_le_s rfl (ce_le_s rfl (ce_le_n (ce_le_n ce_le_e)))) ?_
          exact hc g (ce_rC_eq hr (show K = T by rw [← hT, kv_share_z (by omega)]) rfl) hf
        · refine ce_aload_n dX0_shareOut_17 rfl ?_
          refine ce_iload_n dX0_shareOut_18 rfl ?_
          refine ce_cVp dX0_shareOut_19 hX0_nextToGet kRX0_106 (n_X0_nextToGet c K O hL hr hk w hw h8 h7 (nI (o)) (by rw [hp]; rfl)) rfl rfl (hL).1 rfl (by decide) (Nat.le_of_ble_eq_true rfl) ?_
          refine ce_istore_n dX0_shareOut_22 (Nat.le_of_ble_eq_true rfl) rfl ?_
          refine ce_iload_n dX0_shareOut_23 rfl ?_
          refine ce_ldc dX0_shareOut_24 kRX0_109 ?_
          refine ce_icmp_neI (p := ((o : Nat) : Int)) (q := (-99999)) (tgt := 32) dX0_shareOut_26 (by decide) (nI_toInt (by omega)) (by decide) (fun c_26 => ?_) (fun c_26 => ?_)
          · refine ce_aload_n dX0_shareOut_32 rfl ?_
            refine ce_getR dX0_shareOut_33 fRX0_40 (hL).1 (hL).2.2.1.2.1 ?_
            refine ce_iload_n dX0_shareOut_36 rfl ?_
            refine ce_iload_n dX0_shareOut_37 rfl ?_
            refine ce_iconst (v := nI (1)) dX0_shareOut_38 (by decide) ?_
            refine ce_cVu dX0_shareOut_39 hX5_add kRX0_110 (m_X5_add _ (o) (w) (hL).2.2.2.2.1.2.1 (by omega) (by omega) (nI (1))) rfl rfl ((hL).2.2.2.2.1.2.1).1 rfl (by decide) (Nat.le_of_ble_eq_true rfl) (fun cg1 hcg1 => ?_)
            rw [show g (c + 10 + 1) (o * 6 + w) = nI (K 8 (o * 6 + w)) from (hr).t 8 (by decide) (by omega), nI_add _ _] at hcg1
            have rcg1 : ce_rC cg1 c (kv_up K 8 (o * 6 + w) (K 8 (o * 6 + w) + 1)) O := by rw [hcg1]; exact (hr).up 8 (o * 6 + w) (K 8 (o * 6 + w) + 1) (by decide) rfl
            have fcg1 : ce_fr c (c + 20) g0 cg1 := by rw [hcg1]; exact (hf).up _ _ (by omega)
            have e4 : (kv_up K 8 (o * 6 + w) (K 8 (o * 6 + w) + 1)) 4 w = K 4 w := by rw [kv_up_ne (by decide)]
            refine ce_aload_n dX0_shareOut_42 rfl ?_
            refine ce_getR dX0_shareOut_43 fRX0_24 (hL).1 (hL).2.1.2.2.2.2.1 ?_
            refine ce_iload_n dX0_shareOut_46 rfl ?_
            refine ce_dup2 dX0_shareOut_47 rfl rfl ?_
            refine ce_ialdv dX0_shareOut_48 ((hL).2.2.2.1.2.2.2.2.1).1 rfl ((hL).2.2.2.1.2.2.2.2.1).2 (by omega) (by decide) (((rcg1).r 4 (by decide) (by omega)).trans (congrArg nI e4)) ?_
            refine ce_iconst (v := nI (1)) dX0_shareOut_49 (by decide) ?_
            refine ce_isub (z := nI (K 4 w - (1))) dX0_shareOut_50 (pk_sub (by omega)) ?_
            refine ce_iast dX0_shareOut_51 ((hL).2.2.2.1.2.2.2.2.1).1 rfl ((hL).2.2.2.1.2.2.2.2.1).2 (by omega) (by decide) ?_
            generalize hcg2 : ce_up cg1 (c + 5) (w) (nI (K 4 w - (1))) = cg2
            have rcg2 : ce_rC cg2 c (kv_up (kv_up K 8 (o * 6 + w) (K 8 (o * 6 + w) + 1)) 4 (w) (K 4 w - (1))) O := hcg2 ▸ (rcg1).up 4 (w) (K 4 w - (1)) (by decide) rfl
            have fcg2 : ce_fr c (c + 20) g0 cg2 := hcg2 ▸ (fcg1).up _ _ (by omega)
            refine ce_iinc (v := nI (i + 1)) dX0_shareOut_52 rfl (ce_inc1 _) (Nat.le_of_ble_eq_true rfl) rfl ?_
            refine ce_goto (tgt := 2) dX0_shareOut_55 (by decide) ?_
            refine ce_drop (L' := [some (.ref (c)), some (.int (nI (w))), some (.int (nI (i + 1))), none]) (ce_le_s rfl (ce_le_s rfl (ce_le_s rfl (ce_le_n ce_le_e)))) ?_
            have e9 := kv_share_some (K := K) (w := w) (t := 60 - (i + 1)) (m := o) (by omega) hp
            rw [show 60 - (i + 1) + 1 = 60 - i by omega, hT] at e9
            exact ih _ cg2 (i + 1) (by omega) (by omega) rcg2 ((hk.ne (by decide)).ne (by decide)) (fun m hm => by rw [kv_up_ne (by decide), kv_up_a]; split; omega; exact h8 m hm) (fun j => by rw [kv_up_ne (by decide), kv_up_ne (by decide)]; exact h7 j) (by rw [kv_up_eq]; omega) e9.symm fcg2
          · omega
set_option maxHeartbeats 2000000 in
set_option maxRecDepth 20000 in
theorem w2_X0_shareOut {σ : ce_S} (c : Nat) (T : ce_V) (O : Nat → Int32) (hL : ce_LC σ c) (hk : kv_c0 T) (g0 : ce_D) (nm w : Nat) (hm6 : nm ≤ 6) (hT : T 0 0 = nm) (hw : w < 6) (h8 : ∀ m, T 8 (m * 6 + w) ≤ 60) : ∀ (n9 : Nat) (g : ce_D) (i : Nat), nm - i < n9 → i ≤ nm → ce_rC g c (kv_end w i T) (ko_end T w i O) → ce_fr c (c + 20) g0 g → ce_WP (ce_r 3) mX0_shareOut 0 0 60 [some (.ref (c)), some (.int (nI (w))), some (.int (nI (i))), none] [] σ g (ce_rv σ (fun r g' => r = nI (kv_sum T 8 w) ∧ ce_rC g' c (kv_up (kv_end w nm T) 5 w 1) (ko_end T w nm O) ∧ ce_fr c (c + 20) g0 g')) ce_no := by
  intro n9
  induction n9 with
  | zero =>
    intros
    omega
  | succ n9 ih =>
    intro g i hm hi hr hf
    have hM := hm6
    have hT0 : (kv_end w i T) 0 0 = nm := (kv_end_ne (by decide)).trans hT
    have hc0 : kv_c0 (kv_end w i T) := kv_c0_end hk
    have hp := hk.pr w
    have hpo := hk.po i
    have hl := h8 i
    have e2 : kv_end w i T 2 w = T 2 w := kv_end_ne (by decide)
    have e1 : kv_end w i T 1 i = T 1 i := kv_end_1 (Nat.le_refl i)
    refine ce_iload_n dX0_shareOut_60 rfl ?_
    refine ce_aload_n dX0_shareOut_61 rfl ?_
    refine ce_getIv dX0_shareOut_62 fRX0_56 (hL).1 (hr).1 ?_
    refine ce_icmp_geN (tgt := 129) dX0_shareOut_65 (by decide) rfl rfl (by omega) (by omega) (fun c_65 => ?_) (fun c_65 => ?_)
    · refine ce_aload_n dX0_shareOut_129 rfl ?_
      refine ce_getR dX0_shareOut_130 fRX0_27 (hL).1 (hL).2.1.2.2.2.2.2.1 ?_
      refine ce_iload_n dX0_shareOut_133 rfl ?_
      refine ce_iconst (v := nI (1)) dX0_shareOut_134 (by decide) ?_
      refine ce_iast dX0_shareOut_135 ((hL).2.2.2.1.2.2.2.2.2.1).1 rfl ((hL).2.2.2.1.2.2.2.2.2.1).2 (by omega) (by decide) ?_
      generalize hcg1 : ce_up g (c + 6) (w) (nI (1)) = cg1
      have rcg1 : ce_rC cg1 c (kv_up (kv_end w i T) 5 (w) (1)) (ko_end T w i O) := hcg1 ▸ (hr).up 5 (w) (1) (by decide) rfl
      have fcg1 : ce_fr c (c + 20) g0 cg1 := hcg1 ▸ (hf).up _ _ (by omega)
      refine ce_aload_n dX0_shareOut_136 rfl ?_
      refine ce_getR dX0_shareOut_137 fRX0_40 (hL).1 (hL).2.2.1.2.1 ?_
      refine ce_iload_n dX0_shareOut_140 rfl ?_
      refine ce_cVp dX0_shareOut_141 hX5_ofWine kRX0_91 (n_X5_ofWine (hL).2.2.2.2.1.2.1 (w := w) (by omega) (fun m => (kv_up (kv_end w i T) 5 (w) (1)) 8 (m * 6 + w)) (fun m hm => (rcg1).t 8 (by decide) (by omega)) (kv_sum (kv_up (kv_end w i T) 5 (w) (1)) 8 (w)) rfl) rfl rfl ((hL).2.2.2.2.1.2.1).1 rfl (by decide) (Nat.le_of_ble_eq_true rfl) ?_
      refine ce_iret dX0_shareOut_144 rfl rfl (by decide) (by decide) ?_
      exact ⟨_, rfl, rfl, congrArg nI (by unfold kv_sum; exact ce_sum_cong (fun m hm => (by rw [kv_up_ne (by decide), kv_end_ne (by decide)]))), ce_rC_eq rcg1 (by rw [show i = nm by omega]) (by rw [show i = nm by omega]), fcg1⟩
    · refine ce_aload_n dX0_shareOut_68 rfl ?_
      refine ce_getR dX0_shareOut_69 fRX0_40 (hL).1 (hL).2.2.1.2.1 ?_
      refine ce_iload_n dX0_shareOut_72 rfl ?_
      refine ce_iload_n dX0_shareOut_73 rfl ?_
      refine ce_cVp dX0_shareOut_74 hX5_of kRX0_94 (n_X5_of (hL).2.2.2.2.1.2.1 (m := i) (w := w) (by omega) (by omega) (nI ((kv_end w i T) 8 (i * 6 + w))) ((hr).t 8 (by decide) (by omega))) rfl rfl ((hL).2.2.2.2.1.2.1).1 rfl (by decide) (Nat.le_of_ble_eq_true rfl) ?_
      refine ce_istore_n dX0_shareOut_77 (Nat.le_of_ble_eq_true rfl) rfl ?_
      rw [kv_end_ne (w := w) (a := 8) (by decide)]
      refine ce_aload_n dX0_shareOut_78 rfl ?_
      refine ce_getR dX0_shareOut_79 fRX0_15 (hL).1 (hL).2.1.2.1 ?_
      refine ce_iload_n dX0_shareOut_82 rfl ?_
      refine ce_dup2 dX0_shareOut_83 rfl rfl ?_
      refine ce_ialdv dX0_shareOut_84 ((hL).2.2.2.1.2.1).1 rfl ((hL).2.2.2.1.2.1).2 (by omega) (by decide) ((hr.o (by omega)).trans (if_neg (Nat.lt_irrefl i))) ?_
      refine ce_aload_n dX0_shareOut_85 rfl ?_
      refine ce_iload_n dX0_shareOut_86 rfl ?_
      refine ce_iload_n dX0_shareOut_87 rfl ?_
      refine ce_cVp dX0_shareOut_88 hX0_paidAhead kRX0_113 (n_X0_paidAhead c (kv_end w i T) (ko_end T w i O) hL hr hc0 (w) (T 8 (i * 6 + w)) (by omega) (by omega) (kv_half T w (T 8 (i * 6 + w))) (by unfold kv_half; rw [e2])) rfl rfl (hL).1 rfl (by decide) (Nat.le_of_ble_eq_true rfl) ?_
      refine ce_iadd (z := (O i) + (nI (kv_half T w (T 8 (i * 6 + w))))) dX0_shareOut_91 rfl ?_
      refine ce_iast dX0_shareOut_92 ((hL).2.2.2.1.2.1).1 rfl ((hL).2.2.2.1.2.1).2 (by omega) (by decide) ?_
      generalize hcg1 : ce_up g (c + 2) (i) ((O i) + (nI (kv_half T w (T 8 (i * 6 + w))))) = cg1
      have rcg1 : ce_rC cg1 c (kv_end w i T) (upd (ko_end T w i O) (i) ((O i) + (nI (kv_half T w (T 8 (i * 6 + w)))))) := hcg1 ▸ (hr).upo (i) ((O i) + (nI (kv_half T w (T 8 (i * 6 + w)))))
      have fcg1 : ce_fr c (c + 20) g0 cg1 := hcg1 ▸ (hf).up _ _ (by omega)
      refine ce_aload_n dX0_shareOut_93 rfl ?_
      refine ce_getR dX0_shareOut_94 fRX0_9 (hL).1 (hL).2.1.1 ?_
      refine ce_iload_n dX0_shareOut_97 rfl ?_
      refine ce_sipush (v := nI (999)) dX0_shareOut_98 (by decide) ?_
      refine ce_aload_n dX0_shareOut_101 rfl ?_
      refine ce_getR dX0_shareOut_102 fRX0_9 (hL).1 (hL).2.1.1 ?_
      refine ce_iload_n dX0_shareOut_105 rfl ?_
      refine ce_ialdv dX0_shareOut_106 ((hL).2.2.2.1.1).1 rfl ((hL).2.2.2.1.1).2 (by omega) (by decide) (((rcg1).r 1 (by decide) (by omega)).trans (congrArg nI e1)) ?_
      refine ce_iload_n dX0_shareOut_107 rfl ?_
      refine ce_iadd (z := nI (T 1 i + (T 8 (i * 6 + w)))) dX0_shareOut_108 (nI_add _ _) ?_
      refine ce_min dX0_shareOut_109 kRX0_116 rfl rfl (by omega) (by omega) (by decide) (Nat.le_of_ble_eq_true rfl) ?_
      refine ce_iast dX0_shareOut_112 ((hL).2.2.2.1.1).1 rfl ((hL).2.2.2.1.1).2 (by omega) (by decide) ?_
      generalize hcg2 : ce_up cg1 (c + 1) (i) (nI (min (999) (T 1 i + (T 8 (i * 6 + w))))) = cg2
      have rcg2 : ce_rC cg2 c (kv_up (kv_end w i T) 1 (i) (min (999) (T 1 i + (T 8 (i * 6 + w))))) (upd (ko_end T w i O) (i) ((O i) + (nI (kv_half T w (T 8 (i * 6 + w)))))) := hcg2 ▸ (rcg1).up 1 (i) (min (999) (T 1 i + (T 8 (i * 6 + w)))) (by decide) rfl
      have fcg2 : ce_fr c (c + 20) g0 cg2 := hcg2 ▸ (fcg1).up _ _ (by omega)
      refine ce_aload_n dX0_shareOut_113 rfl ?_
      refine ce_getR dX0_shareOut_114 fRX0_36 (hL).1 (hL).2.2.1.1 ?_
      refine ce_iload_n dX0_shareOut_117 rfl ?_
      refine ce_iload_n dX0_shareOut_118 rfl ?_
      refine ce_iconst (v := nI (0)) dX0_shareOut_119 (by decide) ?_
      refine ce_cVu dX0_shareOut_120 hX5_put kRX0_102 (m_X5_put _ (i) (w) (hL).2.2.2.2.1.1 (by omega) (by omega) (nI (0))) rfl rfl ((hL).2.2.2.2.1.1).1 rfl (by decide) (Nat.le_of_ble_eq_true rfl) (fun cg3 hcg3 => ?_)
      have rcg3 : ce_rC cg3 c (kv_up (kv_up (kv_end w i T) 1 (i) (min (999) (T 1 i + (T 8 (i * 6 + w))))) 7 (i * 6 + w) (0)) (upd (ko_end T w i O) (i) ((O i) + (nI (kv_half T w (T 8 (i * 6 + w)))))) := by rw [hcg3]; exact (rcg2).up 7 (i * 6 + w) (0) (by decide) rfl
      have fcg3 : ce_fr c (c + 20) g0 cg3 := by rw [hcg3]; exact (fcg2).up _ _ (by omega)
      refine ce_iinc (v := nI (i + 1)) dX0_shareOut_123 rfl (ce_inc1 _) (Nat.le_of_ble_eq_true rfl) rfl ?_
      refine ce_goto (tgt := 60) dX0_shareOut_126 (by decide) ?_
      refine ce_drop (L' := [some (.ref (c)), some (.int (nI (w))), some (.int (nI (i + 1))), none]) (ce_le_s rfl (ce_le_s rfl (ce_le_s rfl (ce_le_n ce_le_e)))) ?_
      have eO : (upd (ko_end T w i O) (i) ((O i) + (nI (kv_half T w (T 8 (i * 6 + w)))))) = ko_end T w (i + 1) O := ko_end_s rfl
      exact ih cg3 (i + 1) (by omega) (by omega) (ce_rC_eq rcg3 rfl eO) fcg3
theorem kv_sh_c0 {w : Nat} : ∀ {t : Nat} {K : ce_V}, kv_c0 K → kv_c0 (kv_share w t K)
  | 0, _, h => h
  | t + 1, K, h => by
    unfold kv_share
    split
    · exact h
    · generalize kv_next K w (K 0 0) = o
      cases o with
      | none => exact h
      | some m => exact kv_sh_c0 ((h.ne (by decide)).ne (by decide))
theorem kv_sh_8 {w : Nat} : ∀ {t : Nat} {K : ce_V}, (∀ j, K 7 j ≤ 60) → (∀ m, K 8 (m * 6 + w) ≤ 60) → ∀ m, kv_share w t K 8 (m * 6 + w) ≤ 60
  | 0, _, _, h, m => h m
  | t + 1, K, h7, h, m => by
    unfold kv_share
    split
    · exact h m
    · cases hp : kv_next K w (K 0 0) with
      | none => exact h m
      | some o =>
        have h1 := kv_next_lt hp
        have h2 := h7 (o * 6 + w)
        refine kv_sh_8 (K := kv_give1 K o w) (fun j => ?_) (fun n => ?_) m
        · unfold kv_give1; rw [kv_up_ne (by decide), kv_up_ne (by decide)]; exact h7 j
        · unfold kv_give1; rw [kv_up_ne (by decide), kv_up_a]
          split
          · omega
          · exact h n
set_option maxHeartbeats 2000000 in
set_option maxRecDepth 20000 in
theorem m_X0_shareOut {σ : ce_S} {g : ce_D} (c : Nat) (K : ce_V) (O : Nat → Int32) (hL : ce_LC σ c) (hr : ce_rC g c K O) (hk : kv_cl K) (w : Nat) (hw : w < 6) : ce_CT (ce_r 3) mX0_shareOut [.ref (c), .int (nI (w))] σ g (ce_rv σ (fun r g' => r = nI (kv_sum (kv_share w 60 K) 8 w) ∧ ce_rC g' c (kv_all K w) (ko_all K w O) ∧ ce_fr c (c + 20) g g')) ce_no := by
  have hB := hk.i7
  have hM := hk.me
  have hW := hk.wi
  have hl := hk.le (m := 0) (w := w) (by omega) hw
  refine ce_enter (by decide) rfl (Nat.le_of_ble_eq_true rfl) (L := [some (.ref (c)), some (.int (nI (w))), none, none]) rfl ?_
  refine ce_iconst (v := nI (0)) dX0_shareOut_0 (by decide) ?_
  refine ce_istore_n dX0_shareOut_1 (Nat.le_of_ble_eq_true rfl) rfl ?_
  refine ce_drop (L' := [some (.ref (c)), some (.int (nI (w))), some (.int (nI (0))), none]) (ce_le_s rfl (ce_le_s rfl (ce_le_s rfl (ce_le_n ce_le_e)))) ?_
  refine w1_X0_shareOut c (kv_share w 60 K) O hL g w hw (fun g1 r1 f1 => ?_) 61 K g 0 (by omega) (by omega) hr hk.c0 (fun m hm => hk.l8 hw m) hk.od hl.2.2.2.1 rfl ce_fr.rf
  refine ce_iconst (v := nI (0)) dX0_shareOut_58 (by decide) ?_
  refine ce_istore_n dX0_shareOut_59 (Nat.le_of_ble_eq_true rfl) rfl ?_
  exact w2_X0_shareOut c (kv_share w 60 K) O hL (kv_sh_c0 hk.c0) g (K 0 0) w hM (kv_share_ne (by decide)) hw (kv_sh_8 hk.od (hk.l8 hw)) (K 0 0 + 1) g1 0 (by omega) (by omega) r1 f1
