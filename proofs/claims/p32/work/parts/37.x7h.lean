def kx_addF (S : ks_S) (x : Int32) : Nat := if x.toInt < 0 ∨ 255 < x.toInt then 2 else if sl S < 120 then 0 else 3
def ks_app (S : ks_S) (c : Nat) : ks_S := (S.1, S.2.1, S.2.2.1, (sl S + 1, fun i => if i = sl S then c else sT S i))
def ks_wipe (S : ks_S) : ks_S := (S.1, S.2.1, S.2.2.1, (0, sT S))
theorem ks_ok.app {S : ks_S} (h : ks_ok S) {c : Nat} (hc : c < 256) : ks_ok (ks_app S c) := ⟨h.1, h.2.1, h.2.2.1, fun i hi => by
  have hi2 : i < sl S + 1 := hi
  show (if i = sl S then c else sT S i) < 256
  split
  · exact hc
  · exact h.2.2.2 i (by omega)⟩
theorem ks_ok.wipe {S : ks_S} (h : ks_ok S) : ks_ok (ks_wipe S) := ⟨h.1, h.2.1, h.2.2.1, fun i hi => by have : i < 0 := hi; omega⟩
theorem rX_text {g g1 : ce_D} {a n : Nat} {b : Nat → Nat} {S : ks_S} {T : Nat → Nat} (hr : ce_rX g a b S) (hb : ce_bk (a + 63) b) (hq : ∀ x, x ≠ a + 21 → x ≠ a + 22 → g1 x = g x) (h1 : n ≤ 120) (h2 : g1 (a + 21) 1 = nI n) (h3 : ∀ i, i < n → g1 (a + 22) i = nI (T i)) : ce_rX g1 a b (S.1, S.2.1, S.2.2.1, (n, T)) := by
  obtain ⟨r1, r2, ⟨r3, r4⟩, r5, r6, r7, r8⟩ := hr
  refine ⟨r1.kp (fun i hi => hq _ (by omega) (by omega)), ⟨r2.1, ?_, fun i hi => ?_⟩, ⟨fun s hs => ?_, fun s hs hF => ?_⟩, h1, h2, h3, ?_⟩
  · rw [hq _ (by omega) (by omega)]; exact r2.2.1
  · have h14 : sn S ≤ 14 := r2.1
    have hi2 : i < sn S := hi
    have := hb.in (i := i) (by omega)
    exact (r2.2.2 i hi).kp (fun j hj => hq _ (by omega) (by omega))
  · rw [hq _ (by omega) (by omega)]; exact r3 s hs
  · exact (r4 s hs hF).kp (fun j hj => hq _ (by omega) (by omega))
  · exact r8.kp (fun j hj => hq _ (by omega) (by omega))
set_option maxHeartbeats 2000000 in
set_option maxRecDepth 20000 in
theorem m_X6_addingFault {σ : ce_S} {g : ce_D} (a : Nat) (b : Nat → Nat) (S : ks_S) (hX : ce_LX σ a b) (hr : ce_rX g a b S) (ok : ks_ok S) (x : Int32) : ce_CT (ce_r 0) mX6_addingFault [.ref (a + 21), .int (x)] σ g (ce_pv (nI (kx_addF S x)) σ g) ce_no := by
  have h120 : sl S ≤ 120 := hr.2.2.2.1
  refine ce_enter (by decide) rfl (Nat.le_of_ble_eq_true rfl) (L := [some (.ref (a + 21)), some (.int (x))]) rfl ?_
  refine ce_iload_n dX6_addingFault_0 rfl ?_
  refine ce_if_ltI (tgt := 11) dX6_addingFault_1 (by decide) (p := (x).toInt) rfl (fun c_1 => ?_) (fun c_1 => ?_)
  · refine ce_iconst (v := nI (2)) dX6_addingFault_11 (by decide) ?_
    refine ce_iret dX6_addingFault_12 rfl rfl (by decide) (by decide) ?_
    exact ⟨congrArg (fun z => some (Value.int z)) (congrArg nI (show 2 = _ by unfold kx_addF; (repeat' split) <;> first | rfl | (exfalso; omega))), rfl, rfl⟩
  · refine ce_iload_n dX6_addingFault_4 rfl ?_
    refine ce_sipush (v := nI (255)) dX6_addingFault_5 (by decide) ?_
    refine ce_icmp_leI (p := (x).toInt) (q := ((255 : Nat) : Int)) (tgt := 13) dX6_addingFault_8 (by decide) rfl (nI_toInt (by omega)) (fun c_8 => ?_) (fun c_8 => ?_)
    · refine ce_aload_n dX6_addingFault_13 rfl ?_
      refine ce_getIv dX6_addingFault_14 fRX6_25 hX.2.2.2.2.2.1.1 hr.2.2.2.2.1 ?_
      refine ce_bipush (v := nI (120)) dX6_addingFault_17 (by decide) ?_
      refine ce_icmp_geN (tgt := 26) dX6_addingFault_19 (by decide) rfl rfl (by omega) (by omega) (fun c_19 => ?_) (fun c_19 => ?_)
      · refine ce_iconst (v := nI (3)) dX6_addingFault_26 (by decide) ?_
        refine ce_iret dX6_addingFault_27 rfl rfl (by decide) (by decide) ?_
        exact ⟨congrArg (fun z => some (Value.int z)) (congrArg nI (show 3 = _ by unfold kx_addF; (repeat' split) <;> first | rfl | (exfalso; omega))), rfl, rfl⟩
      · refine ce_iconst (v := nI (0)) dX6_addingFault_22 (by decide) ?_
        refine ce_goto (tgt := 27) dX6_addingFault_23 (by decide) ?_
        refine ce_iret dX6_addingFault_27 rfl rfl (by decide) (by decide) ?_
        exact ⟨congrArg (fun z => some (Value.int z)) (congrArg nI (show 0 = _ by unfold kx_addF; (repeat' split) <;> first | rfl | (exfalso; omega))), rfl, rfl⟩
    · refine ce_iconst (v := nI (2)) dX6_addingFault_11 (by decide) ?_
      refine ce_iret dX6_addingFault_12 rfl rfl (by decide) (by decide) ?_
      exact ⟨congrArg (fun z => some (Value.int z)) (congrArg nI (show 2 = _ by unfold kx_addF; (repeat' split) <;> first | rfl | (exfalso; omega))), rfl, rfl⟩
set_option maxHeartbeats 2000000 in
set_option maxRecDepth 20000 in
theorem m_X6_wipe {σ : ce_S} {g : ce_D} (a : Nat) (b : Nat → Nat) (S : ks_S) (hX : ce_LX σ a b) (hr : ce_rX g a b S) (ok : ks_ok S) : ce_CT (ce_r 0) mX6_wipe [.ref (a + 21)] σ g (ce_rv σ (fun z9 g1 => z9 = nI (sl S) ∧ ce_rX g1 a b (ks_wipe S) ∧ ce_fr a (a + 411) g g1)) ce_no := by
  refine ce_enter (by decide) rfl (Nat.le_of_ble_eq_true rfl) (L := [some (.ref (a + 21)), none]) rfl ?_
  refine ce_aload_n dX6_wipe_0 rfl ?_
  refine ce_getIv dX6_wipe_1 fRX6_25 hX.2.2.2.2.2.1.1 hr.2.2.2.2.1 ?_
  refine ce_istore_n dX6_wipe_4 (Nat.le_of_ble_eq_true rfl) rfl ?_
  refine ce_aload_n dX6_wipe_5 rfl ?_
  refine ce_iconst (v := nI (0)) dX6_wipe_6 (by decide) ?_
  refine ce_putI dX6_wipe_7 pRX6_25 hX.2.2.2.2.2.1.1 rfl rfl ?_
  generalize hcg1 : ce_up g (a + 21) 1 (nI (0)) = cg1
  refine ce_iload_n dX6_wipe_10 rfl ?_
  refine ce_iret dX6_wipe_11 rfl rfl (by decide) (by decide) ?_
  have hq : ∀ x, x ≠ a + 21 → cg1 x = g x := fun x hx => by rw [← hcg1]; exact ce_up_ne _ _ _ hx
  exact ⟨_, rfl, rfl, rfl, rX_text hr hX.2.2.2.1.2.2.2 (fun x h1 _ => hq x h1) (by omega) (by rw [← hcg1]; exact ce_up_at _ _ _ _) (fun i hi => by omega), fun x hx => hq x (by omega)⟩
set_option maxHeartbeats 2000000 in
set_option maxRecDepth 20000 in
theorem m_X6_add {σ : ce_S} {g : ce_D} (a : Nat) (b : Nat → Nat) (S : ks_S) (hX : ce_LX σ a b) (hr : ce_rX g a b S) (ok : ks_ok S) (c9 : Nat) (hc : c9 < 256) (hl : sl S < 120) : ce_CT (ce_r 0) mX6_add [.ref (a + 21), .int (nI (c9))] σ g (ce_rv σ (fun z9 g1 => z9 = nI (sl S + 1) ∧ ce_rX g1 a b (ks_app S c9) ∧ ce_fr a (a + 411) g g1)) ce_no := by
  refine ce_enter (by decide) rfl (Nat.le_of_ble_eq_true rfl) (L := [some (.ref (a + 21)), some (.int (nI (c9)))]) rfl ?_
  refine ce_aload_n dX6_add_0 rfl ?_
  refine ce_getR dX6_add_1 fRX6_9 hX.2.2.2.2.2.1.1 hX.2.2.2.2.2.1.2.1.1 ?_
  refine ce_aload_n dX6_add_4 rfl ?_
  refine ce_getIv dX6_add_5 fRX6_25 hX.2.2.2.2.2.1.1 hr.2.2.2.2.1 ?_
  refine ce_iload_n dX6_add_8 rfl ?_
  refine ce_cast dX6_add_9 (hX.2.2.2.2.2.1.2.2.1).1 rfl (hX.2.2.2.2.2.1.2.2.1).2 (by omega) (by decide) (pk_charN (q := c9) (by omega)).1 ?_
  generalize hcg1 : ce_up g (a + 22) (sl S) (nI (c9)) = cg1
  have w1 : cg1 (a + 21) 1 = nI (sl S) := by rw [← hcg1, ce_up_ne _ _ _ (by omega)]; exact hr.2.2.2.2.1
  refine ce_aload_n dX6_add_10 rfl ?_
  refine ce_dup dX6_add_11 rfl ?_
  refine ce_getIv dX6_add_12 fRX6_25 hX.2.2.2.2.2.1.1 w1 ?_
  refine ce_iconst (v := nI (1)) dX6_add_15 (by decide) ?_
  refine ce_iadd (z := nI (sl S + 1)) dX6_add_16 (nI_add _ _) ?_
  refine ce_putI dX6_add_17 pRX6_25 hX.2.2.2.2.2.1.1 rfl rfl ?_
  generalize hcg2 : ce_up cg1 (a + 21) 1 (nI (sl S + 1)) = cg2
  have w2 : cg2 (a + 21) 1 = nI (sl S + 1) := by rw [← hcg2]; exact ce_up_at _ _ _ _
  refine ce_aload_n dX6_add_20 rfl ?_
  refine ce_getIv dX6_add_21 fRX6_25 hX.2.2.2.2.2.1.1 w2 ?_
  refine ce_iret dX6_add_24 rfl rfl (by decide) (by decide) ?_
  have hq : ∀ x, x ≠ a + 21 → x ≠ a + 22 → cg2 x = g x := fun x h1 h2 => by rw [← hcg2, ce_up_ne _ _ _ h1, ← hcg1]; exact ce_up_ne _ _ _ h2
  have hT : ∀ i, i < sl S + 1 → cg2 (a + 22) i = nI (if i = sl S then c9 else sT S i) := fun i hi => by
    rw [← hcg2, ce_up_ne _ _ _ (by omega), ← hcg1, ce_up_eq]
    unfold upd
    by_cases q : i = sl S
    · rw [if_pos q, if_pos q]
    · rw [if_neg q, if_neg q]; exact hr.2.2.2.2.2.1 i (by omega)
  exact ⟨_, rfl, rfl, rfl, rX_text hr hX.2.2.2.1.2.2.2 hq (by omega) w2 hT, fun x hx => hq x (by omega) (by omega)⟩
set_option maxHeartbeats 2000000 in
set_option maxRecDepth 20000 in
theorem m_X7_append_ok {σ : ce_S} {g : ce_D} (a : Nat) (b : Nat → Nat) (S : ks_S) (hX : ce_LX σ a b) (hr : ce_rX g a b S) (ok : ks_ok S) (c9 : Nat) (hc : c9 < 256) (hl : sl S < 120) (hf : kx_addF S (nI c9) = 0) : ce_CT (ce_r 5) mX7_append [.ref (a), .int (nI (c9))] σ g (ce_rv σ (fun z9 g1 => z9 = nI (sl S + 1) ∧ ce_rX g1 a b (ks_app S c9) ∧ ce_fr a (a + 411) g g1)) ce_no := by
  refine ce_enter (by decide) rfl (Nat.le_of_ble_eq_true rfl) (L := [some (.ref (a)), some (.int (nI (c9)))]) rfl ?_
  refine ce_aload_n dX7_append_0 rfl ?_
  refine ce_getR dX7_append_1 fRX7_19 hX.1 hX.2.1.2.1 ?_
  refine ce_iload_n dX7_append_4 rfl ?_
  refine ce_cVp dX7_append_5 hX6_addingFault kRX7_52 (hf ▸ m_X6_addingFault a b S hX hr ok (nI (c9))) rfl rfl hX.2.2.2.2.2.1.1 rfl (by decide) (Nat.le_of_ble_eq_true rfl) ?_
  refine ce_cSq dX7_append_8 hX7_check kRX7_56 (m_X7_check0) rfl rfl (by decide) (Nat.le_of_ble_eq_true rfl) ?_
  refine ce_aload_n dX7_append_11 rfl ?_
  refine ce_getR dX7_append_12 fRX7_19 hX.1 hX.2.1.2.1 ?_
  refine ce_iload_n dX7_append_15 rfl ?_
  refine ce_i2c (v := nI (c9)) dX7_append_16 ((pk_char _).trans (congrArg nI (by rw [pk_tn (by omega)]; omega))) ?_
  refine ce_cVr dX7_append_17 hX6_add kRX7_60 (m_X6_add a b S hX hr ok c9 hc hl) rfl rfl hX.2.2.2.2.2.1.1 rfl (by decide) (Nat.le_of_ble_eq_true rfl) (fun rcg1 cg1 hcg1 => ?_)
  refine ce_iret dX7_append_20 rfl rfl (by decide) (by decide) ?_
  exact ⟨_, rfl, rfl, hcg1⟩
set_option maxHeartbeats 2000000 in
set_option maxRecDepth 20000 in
theorem m_X7_append_no {σ : ce_S} {g : ce_D} (a : Nat) (b : Nat → Nat) (S : ks_S) (hX : ce_LX σ a b) (hr : ce_rX g a b S) (ok : ks_ok S) (x : Int32) (f : Nat) (hf : kx_addF S x = f) (h0 : f ≠ 0) (h3 : f ≤ 3) : ce_CT (ce_rx 2) mX7_append [.ref (a), .int (x)] σ g (fun _ _ _ => False) (kx_X f σ g) := by
  refine ce_enter (by decide) rfl (Nat.le_of_ble_eq_true rfl) (L := [some (.ref (a)), some (.int (x))]) rfl ?_
  refine ce_aload_n dX7_append_0 rfl ?_
  refine ce_getR dX7_append_1 fRX7_19 hX.1 hX.2.1.2.1 ?_
  refine ce_iload_n dX7_append_4 rfl ?_
  refine ce_cVp dX7_append_5 hX6_addingFault kRX7_52 (hf ▸ m_X6_addingFault a b S hX hr ok (x)) rfl rfl hX.2.2.2.2.2.1.1 rfl (by decide) (Nat.le_of_ble_eq_true rfl) ?_
  exact ce_callSX dX7_append_8 hX7_check kRX7_56 (m_X7_checkX f h0 h3) rfl rfl (by decide) (by decide) (by decide) (by decide) (fun v σ1 g1 h => h.elim) (fun E σ1 g1 h => ce_xout rfl (by decide) (by decide) h)
set_option maxHeartbeats 2000000 in
set_option maxRecDepth 20000 in
theorem m_X7_clearText_ok {σ : ce_S} {g : ce_D} (a : Nat) (b : Nat → Nat) (S : ks_S) (hX : ce_LX σ a b) (hr : ce_rX g a b S) (ok : ks_ok S) : ce_CT (ce_r 5) mX7_clearText [.ref (a)] σ g (ce_rv σ (fun z9 g1 => z9 = nI (sl S) ∧ ce_rX g1 a b (ks_wipe S) ∧ ce_fr a (a + 411) g g1)) ce_no := by
  refine ce_enter (by decide) rfl (Nat.le_of_ble_eq_true rfl) (L := [some (.ref (a))]) rfl ?_
  refine ce_aload_n dX7_clearText_0 rfl ?_
  refine ce_getR dX7_clearText_1 fRX7_19 hX.1 hX.2.1.2.1 ?_
  refine ce_cVr dX7_clearText_4 hX6_wipe kRX7_64 (m_X6_wipe a b S hX hr ok) rfl rfl hX.2.2.2.2.2.1.1 rfl (by decide) (Nat.le_of_ble_eq_true rfl) (fun rcg1 cg1 hcg1 => ?_)
  refine ce_iret dX7_clearText_7 rfl rfl (by decide) (by decide) ?_
  exact ⟨_, rfl, rfl, hcg1⟩
