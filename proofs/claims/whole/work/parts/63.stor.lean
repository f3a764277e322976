theorem n_cellar {σ : ce_S} {g0 : ce_D} {r : Nat} {K : ce_V} {O : Nat → Int32} (hA : ce_LA σ 10 r 189) (hk : kv_cl K) (hr : cr_row (g0 r) (kq K) O) : ce_CT (ce_r 2) mX8_cellar [.ref r] σ g0 (ce_pv (nI (ce_sum (K 9) 36)) σ g0) ce_no := by
  have q0 : kq K 0 = K 0 := kq_ne (by decide)
  have e : ce_sum (kq K 12) (kq K 0 2) = ce_sum (K 9) 36 := by rw [kq_ne (a := 12) (by decide), q0]; exact kq_cel hk
  exact e ▸ m_X8_cellar r (kq K) O hA hr (by rw [q0]; exact hk.i7)
theorem n_emptyBins {σ : ce_S} {g0 : ce_D} {r : Nat} {K : ce_V} {O : Nat → Int32} (hA : ce_LA σ 10 r 189) (hk : kv_cl K) (hr : cr_row (g0 r) (kq K) O) : ce_CT (ce_r 2) mX8_emptyBins [.ref r] σ g0 (ce_pv (nI (kv_emp K (K 0 2))) σ g0) ce_no := by
  have q0 : kq K 0 = K 0 := kq_ne (by decide)
  have e : kv_emp (kq K) (kq K 0 2) = kv_emp K (K 0 2) := by rw [kq_emp, q0]
  exact e ▸ m_X8_emptyBins r (kq K) O hA hr (by rw [q0]; exact hk.i7) (kq_rk hk.rk)
theorem rM_set {g g1 : ce_D} {d n : Nat} {S : ks_S} {K : ce_V} {O : Nat → Int32} (h : ce_rM g d S) (hn : n ≤ sn S) (h9 : g1 d 9 = nI n) (h2 : g1 d 2 = g d 2) (h3 : cr_row (g1 (d + 3)) (kq K) O) (f : ∀ x, x ≠ d → x ≠ d + 3 → g1 x = g x) : ce_rM g1 d ((K, O), (n, sKH S, sOH S), S.2.2) := by
  obtain ⟨r1, _, r3, r4, r5⟩ := h
  rw [← h2, ← f (d + 1) (by omega) (by omega)] at r1
  rw [← f (d + 5) (by omega) (by omega)] at r3
  rw [← f (d + 7) (by omega) (by omega)] at r4
  rw [← f (d + 6) (by omega) (by omega)] at r5
  exact ⟨r1, h3, ⟨Nat.le_trans hn r3.1, h9, fun i hi => r3.2.2 i (Nat.lt_of_lt_of_le hi hn)⟩, r4, r5⟩
theorem rM_save {g g1 : ce_D} {d s : Nat} {S : ks_S} (h : ce_rM g d S) (hd : g1 d = g d) (h1 : cr_row (fun j => g1 (d + 6) (189 * s + j)) (kq (sK S)) (sO S)) (h2 : ∀ t, t < 2 → t ≠ s → ∀ j, j < 189 → g1 (d + 6) (189 * t + j) = g (d + 6) (189 * t + j)) (h7 : ∀ t, g1 (d + 7) t = if t = s then 1 else g (d + 7) t) (f : ∀ x, x ≠ d + 6 → x ≠ d + 7 → g1 x = g x) : ce_rM g1 d (ks_save S s) := by
  obtain ⟨r1, r2, r3, r4, r5⟩ := h
  rw [← hd, ← f (d + 1) (by omega) (by omega)] at r1
  rw [← f (d + 3) (by omega) (by omega)] at r2
  rw [← hd, ← f (d + 5) (by omega) (by omega)] at r3
  refine ⟨r1, r2, r3, fun t ht => ?_, fun t ht hF => ?_⟩
  · rw [h7]
    show _ = if (if t = s then true else sF S t) = true then (1 : Int32) else 0
    by_cases e : t = s
    · rw [if_pos e, if_pos e]; rfl
    · rw [if_neg e, if_neg e]; exact r4 t ht
  · have hF : (if t = s then true else sF S t) = true := hF
    show cr_row _ (kq (if t = s then sK S else sKS S t)) (if t = s then sO S else sOS S t)
    by_cases e : t = s
    · rw [if_pos e, if_pos e, e]; exact h1
    · rw [if_neg e] at hF
      rw [if_neg e, if_neg e]; exact (r5 t ht hF).eq (h2 t ht e)
theorem rM_text {g g1 : ce_D} {d n : Nat} {S : ks_S} {T : Nat → Nat} (h : ce_rM g d S) (hn : n ≤ 120) (h2 : g1 d 2 = nI n) (h9 : g1 d 9 = g d 9) (h1 : ∀ i, i < n → g1 (d + 1) i = nI (T i)) (f : ∀ x, x ≠ d → x ≠ d + 1 → g1 x = g x) : ce_rM g1 d (S.1, S.2.1, S.2.2.1, (n, T)) := by
  obtain ⟨r1, r2, r3, r4, r5⟩ := h
  rw [← f (d + 3) (by omega) (by omega)] at r2
  rw [← h9, ← f (d + 5) (by omega) (by omega)] at r3
  rw [← f (d + 7) (by omega) (by omega)] at r4
  rw [← f (d + 6) (by omega) (by omega)] at r5
  exact ⟨⟨hn, h2, h1⟩, r2, r3, r4, r5⟩
theorem rM_load {g g1 : ce_D} {d : Nat} {S : ks_S} {K : ce_V} (h : ce_rM g d S) (h9 : g1 d 9 = nI 0) (h2 : g1 d 2 = g d 2) (h3 : cr_row (g1 (d + 3)) (kq K) (fun _ => 0)) (h7 : ∀ s, s < 2 → g1 (d + 7) s = 0) (f : ∀ x, x ≠ d → x ≠ d + 2 → x ≠ d + 3 → x ≠ d + 7 → g1 x = g x) : ce_rM g1 d (ks_load S K) := by
  obtain ⟨r1, _, r3, _, _⟩ := h
  rw [← h2, ← f (d + 1) (by omega) (by omega) (by omega) (by omega)] at r1
  exact ⟨r1, h3, ⟨Nat.zero_le _, h9, fun i hi => absurd hi (Nat.not_lt_zero i)⟩, fun s hs => (h7 s hs).trans (if_neg (fun e => (by cases e))).symm, fun s _ hF => (by cases hF)⟩
theorem kx_loop_le {T : Nat → Nat} {len : Nat} : ∀ {t p q : Nat} {K : ce_V}, kv_cl K → (kx_loop T len t K p).1 = some q → q ≤ len
  | 0, _, _, _, _, e => by cases e
  | t + 1, p, q, K, h, e => by
    unfold kx_loop at e
    split at e
    · rename_i hp
      have hh := kx_part_ok (T := T) h hp
      split at e
      · exact kx_loop_le hh.1 e
      · cases e
        exact hh.2.2.1
    · cases e
theorem kx_read_le {T : Nat → Nat} {len q : Nat} (e : (kx_read T len).1 = some q) : q ≤ len := by
  unfold kx_read at e
  split at e
  · cases e
    exact Nat.zero_le _
  · exact kx_loop_le cl_0 e
def kx_unF (S : ks_S) : Nat := if sn S = 0 then 1 else 0
def kx_reF (S : ks_S) (x : Int32) : Nat := if ce_in x 2 then (if sF S (ce_n x) = true then 0 else 2) else 1
def kx_ldF (S : ks_S) : Nat := if (kx_read (sT S) (sl S)).1 = none then 0 else 1
set_option maxHeartbeats 2000000 in
set_option maxRecDepth 20000 in
theorem m_X8_undo_ok {σ : ce_S} {g : ce_D} (d : Nat) (S : ks_S) (hD : ce_LM σ d) (hr : ce_rM g d S) (ok : ks_ok S) (hn : 0 < sn S) : ce_CT (ce_r 5) mX8_undo [.ref (d)] σ g (ce_rv σ (fun z9 g1 => z9 = nI (sn S - 1) ∧ g1 d 0 = nI 0 ∧ ce_rM g1 d (ks_undo S) ∧ ce_fr d (d + 11) g g1)) ce_no := by
  have hB := ok.1.i7
  have hM := ok.1.me
  have hW := ok.1.wi
  have hst := ok.1.st
  have h14 : sn S ≤ 14 := hr.2.2.1.1
  have h120 : sl S ≤ 120 := hr.1.1
  refine ce_enter (by decide) rfl (Nat.le_of_ble_eq_true rfl) (L := [some (.ref (d))]) rfl ?_
  refine ce_aload_n dX8_undo_0 rfl ?_
  refine ce_aload_n dX8_undo_1 rfl ?_
  refine ce_getIv dX8_undo_2 fRX8_47 hD.1 hr.2.2.1.2.1 ?_
  refine ce_if_neN (tgt := 12) dX8_undo_5 (by decide) rfl (by omega) (fun c_5 => ?_) (fun c_5 => ?_)
  · refine ce_iconst (v := nI (0)) dX8_undo_12 (by decide) ?_
    refine ce_cVr dX8_undo_13 hX8_refused kRX8_115 (m_X8_refused0 d hD) rfl rfl hD.1 rfl (by decide) (Nat.le_of_ble_eq_true rfl) (fun rcg1 cg1 hcg1 => ?_)
    obtain ⟨ecg1, hcg1⟩ := hcg1
    have ecg1 : rcg1 = nI 0 := ecg1
    subst ecg1
    have Mcg1 : ce_rM cg1 d S := by rw [hcg1]; exact rM_ref hr
    have zcg1 : cg1 d 0 = nI 0 := by rw [hcg1]; exact ce_up_at _ _ _ _
    have ycg1 : ce_fr d (d + 11) g cg1 := fun x hx => by rw [hcg1]; exact ce_up_ne _ _ _ (by omega)
    refine ce_if_eqN (tgt := 21) dX8_undo_16 (by decide) rfl (by omega) (fun c_16 => ?_) (fun c_16 => ?_)
    · refine ce_aload_n dX8_undo_21 rfl ?_
      refine ce_dup dX8_undo_22 rfl ?_
      refine ce_getIv dX8_undo_23 fRX8_47 hD.1 Mcg1.2.2.1.2.1 ?_
      refine ce_iconst (v := nI (1)) dX8_undo_26 (by decide) ?_
      refine ce_isub (z := nI (sn S - 1)) dX8_undo_27 (pk_sub (by omega)) ?_
      refine ce_putI dX8_undo_28 pRX8_47 hD.1 rfl rfl ?_
      generalize hcg2 : ce_up cg1 (d) 9 (nI (sn S - 1)) = cg2
      have i2cg2 : cg2 d 2 = nI (sl S) := by rw [← hcg2, ce_up_j (by decide)]; exact Mcg1.1.2.1
      have i9cg2 : cg2 d 9 = nI (sn S - 1) := by rw [← hcg2]; exact ce_up_at _ _ _ _
      have Rcg2 : cr_row (cg2 (d + 3)) (kq (sK S)) (sO S) := by rw [← hcg2, ce_up_ne _ _ _ (by omega)]; exact Mcg1.2.1
      refine ce_aload_n dX8_undo_31 rfl ?_
      refine ce_getR dX8_undo_32 fRX8_22 hD.1 hD.2.1.2.2.2.2.1 ?_
      refine ce_sipush (v := nI (189)) dX8_undo_35 (by decide) ?_
      refine ce_aload_n dX8_undo_38 rfl ?_
      refine ce_getIv dX8_undo_39 fRX8_47 hD.1 i9cg2 ?_
      refine ce_imul (z := nI (189 * (sn S - 1))) dX8_undo_42 (pk_mul _ _) ?_
      refine ce_aload_n dX8_undo_43 rfl ?_
      refine ce_getR dX8_undo_44 fRX8_16 hD.1 hD.2.1.2.2.1 ?_
      refine ce_iconst (v := nI (0)) dX8_undo_47 (by decide) ?_
      refine ce_sipush (v := nI (189)) dX8_undo_48 (by decide) ?_
      refine ce_cSu dX8_undo_51 hX8_copy kRX8_50 (m_X8_copy (d + 5) (189 * (sn S - 1)) (d + 3) (0) (189) 2646 189 ⟨(hD.2.2.2.2.2.2.1).1, (hD.2.2.2.2.2.2.1).2⟩ ⟨(hD.2.2.2.2.1).1, (hD.2.2.2.2.1).2⟩ (by omega) (by omega) (by omega) (by omega)) rfl rfl (by decide) (Nat.le_of_ble_eq_true rfl) (fun cg3 hcg3 => ?_)
      have i2cg3 : cg3 d 2 = nI (sl S) := by rw [hcg3, ce_mv_ne (by omega)]; exact i2cg2
      have i9cg3 : cg3 d 9 = nI (sn S - 1) := by rw [hcg3, ce_mv_ne (by omega)]; exact i9cg2
      have Rcg3 : cr_row (cg3 (d + 3)) (kq (sKH S (sn S - 1))) (sOH S (sn S - 1)) := by rw [hcg3]; exact ((show cr_row (fun j => cg2 (d + 5) (189 * (sn S - 1) + j)) (kq (sKH S (sn S - 1))) (sOH S (sn S - 1)) by rw [← hcg2, ce_up_ne _ _ _ (by omega)]; exact Mcg1.2.2.1.2.2 (sn S - 1) (by omega))).eq (fun i hi => by rw [ce_mv_in (by omega), Nat.sub_zero])
      refine ce_aload_n dX8_undo_54 rfl ?_
      refine ce_getIv dX8_undo_55 fRX8_47 hD.1 i9cg3 ?_
      refine ce_iret dX8_undo_58 rfl rfl (by decide) (by decide) ?_
      have f9 : ∀ x, x ≠ d → x ≠ d + 3 → cg3 x = cg1 x := fun x h1 h2 => by rw [hcg3, ce_mv_ne h2, ← hcg2]; exact ce_up_ne _ _ _ h1
      have f0 : ∀ k, k ≠ 9 → cg3 d k = cg1 d k := fun k hk => by rw [hcg3, ce_mv_ne (by omega), ← hcg2]; exact ce_up_j hk
      exact ⟨_, rfl, rfl, rfl, (f0 0 (by decide)).trans zcg1, rM_set Mcg1 (Nat.sub_le _ _) i9cg3 (f0 2 (by decide)) Rcg3 f9, fun x hx => (f9 x (by omega) (by omega)).trans (ycg1 x hx)⟩
    · omega
  · refine ce_iconst (v := nI (1)) dX8_undo_8 (by decide) ?_
    refine ce_goto (tgt := 13) dX8_undo_9 (by decide) ?_
    exfalso
    (try unfold ce_in at *)
    first | omega | contradiction
set_option maxHeartbeats 2000000 in
set_option maxRecDepth 20000 in
theorem m_X8_undo_no {σ : ce_S} {g : ce_D} (d : Nat) (S : ks_S) (hD : ce_LM σ d) (hr : ce_rM g d S) (ok : ks_ok S) (f : Nat) (hf : kx_unF S = f) (h0 : f ≠ 0) : ce_CT (ce_r 5) mX8_undo [.ref (d)] σ g (ce_rv σ (fun z9 g1 => g1 d 0 = nI (f) ∧ ce_rM g1 d S ∧ ce_fr d (d + 11) g g1)) ce_no := by
  have hB := ok.1.i7
  have hM := ok.1.me
  have hW := ok.1.wi
  have hst := ok.1.st
  have h14 : sn S ≤ 14 := hr.2.2.1.1
  have h120 : sl S ≤ 120 := hr.1.1
  refine ce_enter (by decide) rfl (Nat.le_of_ble_eq_true rfl) (L := [some (.ref (d))]) rfl ?_
  refine ce_aload_n dX8_undo_0 rfl ?_
  refine ce_aload_n dX8_undo_1 rfl ?_
  refine ce_getIv dX8_undo_2 fRX8_47 hD.1 hr.2.2.1.2.1 ?_
  refine ce_if_neN (tgt := 12) dX8_undo_5 (by decide) rfl (by omega) (fun c_5 => ?_) (fun c_5 => ?_)
  · refine ce_iconst (v := nI (0)) dX8_undo_12 (by decide) ?_
    have ef : f = 0 := hf.symm.trans (show kx_unF S = 0 by unfold kx_unF; (try unfold ce_n); (try simp only [Int.toNat_natCast]); (try unfold ce_in at *); (repeat' split) <;> first | rfl | (exfalso; omega))
    exact absurd ef h0
  · refine ce_iconst (v := nI (1)) dX8_undo_8 (by decide) ?_
    refine ce_goto (tgt := 13) dX8_undo_9 (by decide) ?_
    have ef : f = 1 := hf.symm.trans (show kx_unF S = 1 by unfold kx_unF; (try unfold ce_n); (try simp only [Int.toNat_natCast]); (try unfold ce_in at *); (repeat' split) <;> first | rfl | (exfalso; omega))
    refine ce_cVr dX8_undo_13 hX8_refused kRX8_115 (m_X8_refused1 d hD) rfl rfl hD.1 rfl (by decide) (Nat.le_of_ble_eq_true rfl) (fun rcg1 cg1 hcg1 => ?_)
    obtain ⟨ecg1, hcg1⟩ := hcg1
    have ecg1 : rcg1 = nI 1 := ecg1
    subst ecg1
    have Mcg1 : ce_rM cg1 d S := by rw [hcg1]; exact rM_ref hr
    have zcg1 : cg1 d 0 = nI 1 := by rw [hcg1]; exact ce_up_at _ _ _ _
    have ycg1 : ce_fr d (d + 11) g cg1 := fun x hx => by rw [hcg1]; exact ce_up_ne _ _ _ (by omega)
    refine ce_if_eqN (tgt := 21) dX8_undo_16 (by decide) rfl (by omega) (fun c_16 => ?_) (fun c_16 => ?_)
    · omega
    · refine ce_iconst (v := nI (0)) dX8_undo_19 (by decide) ?_
      refine ce_iret dX8_undo_20 rfl rfl (by decide) (by decide) ?_
      exact ⟨_, rfl, rfl, by rw [ef]; exact zcg1, Mcg1, ycg1⟩
set_option maxHeartbeats 2000000 in
set_option maxRecDepth 20000 in
theorem m_X8_save_ok {σ : ce_S} {g : ce_D} (d : Nat) (S : ks_S) (hD : ce_LM σ d) (hr : ce_rM g d S) (ok : ks_ok S) (s : Nat) (hs : s < 2) : ce_CT (ce_r 5) mX8_save [.ref (d), .int (nI (s))] σ g (ce_rv σ (fun z9 g1 => z9 = nI (ce_sum (sK S 9) 36) ∧ g1 d 0 = nI 0 ∧ ce_rM g1 d (ks_save S s) ∧ ce_fr d (d + 11) g g1)) ce_no := by
  have hB := ok.1.i7
  have hM := ok.1.me
  have hW := ok.1.wi
  have hst := ok.1.st
  have h14 : sn S ≤ 14 := hr.2.2.1.1
  have h120 : sl S ≤ 120 := hr.1.1
  have es := nI_toInt (n := s) (by omega)
  refine ce_enter (by decide) rfl (Nat.le_of_ble_eq_true rfl) (L := [some (.ref (d)), some (.int (nI (s)))]) rfl ?_
  refine ce_aload_n dX8_save_0 rfl ?_
  refine ce_iload_n dX8_save_1 rfl ?_
  refine ce_i2l (v := (nI (s)).toInt64) dX8_save_2 rfl ?_
  refine ce_lconst (v := 0) dX8_save_3 (by decide) ?_
  refine ce_lconst (v := 1) dX8_save_4 (by decide) ?_
  refine ce_cSp dX8_save_5 hX8_in kRX8_108 (m_X8_in ((nI (s)).toInt64) (0) (1) ((0 : Int) ≤ ((s : Nat) : Int) ∧ ((s : Nat) : Int) ≤ (1 : Int)) (cr_io ((cr_tl (nI (s))).trans (nI_toInt (by omega))) (by decide) (by decide))) rfl rfl (by decide) (Nat.le_of_ble_eq_true rfl) ?_
  refine ce_if_eqB (tgt := 15) dX8_save_8 (by decide) rfl (fun c_8 => ?_) (fun c_8 => ?_)
  · refine ce_iconst (v := nI (1)) dX8_save_15 (by decide) ?_
    exfalso
    (try unfold ce_in at *)
    first | omega | contradiction
  · refine ce_iconst (v := nI (0)) dX8_save_11 (by decide) ?_
    refine ce_goto (tgt := 16) dX8_save_12 (by decide) ?_
    refine ce_cVr dX8_save_16 hX8_refused kRX8_115 (m_X8_refused0 d hD) rfl rfl hD.1 rfl (by decide) (Nat.le_of_ble_eq_true rfl) (fun rcg1 cg1 hcg1 => ?_)
    obtain ⟨ecg1, hcg1⟩ := hcg1
    have ecg1 : rcg1 = nI 0 := ecg1
    subst ecg1
    have Mcg1 : ce_rM cg1 d S := by rw [hcg1]; exact rM_ref hr
    have zcg1 : cg1 d 0 = nI 0 := by rw [hcg1]; exact ce_up_at _ _ _ _
    have ycg1 : ce_fr d (d + 11) g cg1 := fun x hx => by rw [hcg1]; exact ce_up_ne _ _ _ (by omega)
    refine ce_if_eqN (tgt := 24) dX8_save_19 (by decide) rfl (by omega) (fun c_19 => ?_) (fun c_19 => ?_)
    · refine ce_aload_n dX8_save_24 rfl ?_
      refine ce_getR dX8_save_25 fRX8_16 hD.1 hD.2.1.2.2.1 ?_
      refine ce_iconst (v := nI (0)) dX8_save_28 (by decide) ?_
      refine ce_aload_n dX8_save_29 rfl ?_
      refine ce_getR dX8_save_30 fRX8_25 hD.1 hD.2.1.2.2.2.2.2.1 ?_
      refine ce_sipush (v := nI (189)) dX8_save_33 (by decide) ?_
      refine ce_iload_n dX8_save_36 rfl ?_
      refine ce_imul (z := nI (189 * s)) dX8_save_37 (pk_mul _ _) ?_
      refine ce_sipush (v := nI (189)) dX8_save_38 (by decide) ?_
      refine ce_cSu dX8_save_41 hX8_copy kRX8_50 (m_X8_copy (d + 3) (0) (d + 6) (189 * s) (189) 189 378 ⟨(hD.2.2.2.2.1).1, (hD.2.2.2.2.1).2⟩ ⟨(hD.2.2.2.2.2.2.2.1).1, (hD.2.2.2.2.2.2.2.1).2⟩ (by omega) (by omega) (by omega) (by omega)) rfl rfl (by decide) (Nat.le_of_ble_eq_true rfl) (fun cg2 hcg2 => ?_)
      have i2cg2 : cg2 d 2 = nI (sl S) := by rw [hcg2, ce_mv_ne (by omega)]; exact Mcg1.1.2.1
      have i9cg2 : cg2 d 9 = nI (sn S) := by rw [hcg2, ce_mv_ne (by omega)]; exact Mcg1.2.2.1.2.1
      have Rcg2 : cr_row (cg2 (d + 3)) (kq (sK S)) (sO S) := by rw [hcg2, ce_mv_ne (by omega)]; exact Mcg1.2.1
      refine ce_aload_n dX8_save_44 rfl ?_
      refine ce_getR dX8_save_45 fRX8_28 hD.1 hD.2.1.2.2.2.2.2.2.1 ?_
      refine ce_iload_n dX8_save_48 rfl ?_
      refine ce_iconst (v := nI (1)) dX8_save_49 (by decide) ?_
      refine ce_zast dX8_save_50 (hD.2.2.2.2.2.2.2.2.1).1 rfl (hD.2.2.2.2.2.2.2.2.1).2 (by omega) (by decide) rfl ?_
      generalize hcg3 : ce_up cg2 (d + 7) (s) (nI (1)) = cg3
      have i2cg3 : cg3 d 2 = nI (sl S) := by rw [← hcg3, ce_up_ne _ _ _ (by omega)]; exact i2cg2
      have i9cg3 : cg3 d 9 = nI (sn S) := by rw [← hcg3, ce_up_ne _ _ _ (by omega)]; exact i9cg2
      have Rcg3 : cr_row (cg3 (d + 3)) (kq (sK S)) (sO S) := by rw [← hcg3, ce_up_ne _ _ _ (by omega)]; exact Rcg2
      refine ce_aload_n dX8_save_51 rfl ?_
      refine ce_getR dX8_save_52 fRX8_16 hD.1 hD.2.1.2.2.1 ?_
      refine ce_cSp dX8_save_55 hX8_cellar kRX8_158 (n_cellar ⟨(hD.2.2.2.2.1).1, (hD.2.2.2.2.1).2⟩ ok.1 Rcg3) rfl rfl (by decide) (Nat.le_of_ble_eq_true rfl) ?_
      refine ce_iret dX8_save_58 rfl rfl (by decide) (by decide) ?_
      have f9 : ∀ x, x ≠ d + 6 → x ≠ d + 7 → cg3 x = cg1 x := fun x h1 h2 => by rw [← hcg3, ce_up_ne _ _ _ h2, hcg2, ce_mv_ne h1]
      have e6 : cg3 (d + 6) = ce_mv cg1 (d + 3) 0 (d + 6) (189 * s) 189 (d + 6) := by rw [← hcg3, ce_up_ne _ _ _ (by omega), hcg2]
      have e7 : ∀ t, cg3 (d + 7) t = if t = s then 1 else cg1 (d + 7) t := fun t => by rw [← hcg3, ce_up_eq, hcg2, ce_mv_ne (by omega)]; rfl
      have k1 : cr_row (fun j => cg3 (d + 6) (189 * s + j)) (kq (sK S)) (sO S) := by rw [e6]; exact cr_mv (p := 0) (Mcg1.2.1.eq (fun i _ => by rw [Nat.zero_add]))
      have k2 : ∀ t, t < 2 → t ≠ s → ∀ j, j < 189 → cg3 (d + 6) (189 * t + j) = cg1 (d + 6) (189 * t + j) := fun t h1 h2 j h3 => by rw [e6]; exact ce_mv_out (by omega)
      exact ⟨_, rfl, rfl, rfl, by rw [f9 d (by omega) (by omega)]; exact zcg1, rM_save Mcg1 (f9 d (by omega) (by omega)) k1 k2 e7 f9, fun x hx => (f9 x (by omega) (by omega)).trans (ycg1 x hx)⟩
    · omega
set_option maxHeartbeats 2000000 in
set_option maxRecDepth 20000 in
theorem m_X8_restore_ok {σ : ce_S} {g : ce_D} (d : Nat) (S : ks_S) (hD : ce_LM σ d) (hr : ce_rM g d S) (ok : ks_ok S) (s : Nat) (hs : s < 2) (hF : sF S s = true) : ce_CT (ce_r 5) mX8_restore [.ref (d), .int (nI (s))] σ g (ce_rv σ (fun z9 g1 => z9 = nI (ce_sum (sKS S s 9) 36) ∧ g1 d 0 = nI 0 ∧ ce_rM g1 d (ks_rest S s) ∧ ce_fr d (d + 11) g g1)) ce_no := by
  have hB := ok.1.i7
  have hM := ok.1.me
  have hW := ok.1.wi
  have hst := ok.1.st
  have h14 : sn S ≤ 14 := hr.2.2.1.1
  have h120 : sl S ≤ 120 := hr.1.1
  have es := nI_toInt (n := s) (by omega)
  refine ce_enter (by decide) rfl (Nat.le_of_ble_eq_true rfl) (L := [some (.ref (d)), some (.int (nI (s)))]) rfl ?_
  refine ce_aload_n dX8_restore_0 rfl ?_
  refine ce_iload_n dX8_restore_1 rfl ?_
  refine ce_i2l (v := (nI (s)).toInt64) dX8_restore_2 rfl ?_
  refine ce_lconst (v := 0) dX8_restore_3 (by decide) ?_
  refine ce_lconst (v := 1) dX8_restore_4 (by decide) ?_
  refine ce_cSp dX8_restore_5 hX8_in kRX8_108 (m_X8_in ((nI (s)).toInt64) (0) (1) ((0 : Int) ≤ ((s : Nat) : Int) ∧ ((s : Nat) : Int) ≤ (1 : Int)) (cr_io ((cr_tl (nI (s))).trans (nI_toInt (by omega))) (by decide) (by decide))) rfl rfl (by decide) (Nat.le_of_ble_eq_true rfl) ?_
  refine ce_if_neB (tgt := 15) dX8_restore_8 (by decide) rfl (fun c_8 => ?_) (fun c_8 => ?_)
  · refine ce_aload_n dX8_restore_15 rfl ?_
    refine ce_getR dX8_restore_16 fRX8_28 hD.1 hD.2.1.2.2.2.2.2.2.1 ?_
    refine ce_iload_n dX8_restore_19 rfl ?_
    refine ce_zaldv dX8_restore_20 (hD.2.2.2.2.2.2.2.2.1).1 rfl (hD.2.2.2.2.2.2.2.2.1).2 (by omega) (by decide) (hr.2.2.2.1 s (by omega)) ?_
    refine ce_if_eqB (tgt := 28) dX8_restore_21 (by decide) rfl (fun c_21 => ?_) (fun c_21 => ?_)
    · refine ce_iconst (v := nI (2)) dX8_restore_28 (by decide) ?_
      exfalso
      (try unfold ce_in at *)
      first | omega | contradiction
    · refine ce_iconst (v := nI (0)) dX8_restore_24 (by decide) ?_
      refine ce_goto (tgt := 29) dX8_restore_25 (by decide) ?_
      refine ce_cVr dX8_restore_29 hX8_refused kRX8_115 (m_X8_refused0 d hD) rfl rfl hD.1 rfl (by decide) (Nat.le_of_ble_eq_true rfl) (fun rcg1 cg1 hcg1 => ?_)
      obtain ⟨ecg1, hcg1⟩ := hcg1
      have ecg1 : rcg1 = nI 0 := ecg1
      subst ecg1
      have Mcg1 : ce_rM cg1 d S := by rw [hcg1]; exact rM_ref hr
      have zcg1 : cg1 d 0 = nI 0 := by rw [hcg1]; exact ce_up_at _ _ _ _
      have ycg1 : ce_fr d (d + 11) g cg1 := fun x hx => by rw [hcg1]; exact ce_up_ne _ _ _ (by omega)
      refine ce_if_eqN (tgt := 37) dX8_restore_32 (by decide) rfl (by omega) (fun c_32 => ?_) (fun c_32 => ?_)
      · refine ce_aload_n dX8_restore_37 rfl ?_
        refine ce_getR dX8_restore_38 fRX8_25 hD.1 hD.2.1.2.2.2.2.2.1 ?_
        refine ce_sipush (v := nI (189)) dX8_restore_41 (by decide) ?_
        refine ce_iload_n dX8_restore_44 rfl ?_
        refine ce_imul (z := nI (189 * s)) dX8_restore_45 (pk_mul _ _) ?_
        refine ce_aload_n dX8_restore_46 rfl ?_
        refine ce_getR dX8_restore_47 fRX8_16 hD.1 hD.2.1.2.2.1 ?_
        refine ce_iconst (v := nI (0)) dX8_restore_50 (by decide) ?_
        refine ce_sipush (v := nI (189)) dX8_restore_51 (by decide) ?_
        refine ce_cSu dX8_restore_54 hX8_copy kRX8_50 (m_X8_copy (d + 6) (189 * s) (d + 3) (0) (189) 378 189 ⟨(hD.2.2.2.2.2.2.2.1).1, (hD.2.2.2.2.2.2.2.1).2⟩ ⟨(hD.2.2.2.2.1).1, (hD.2.2.2.2.1).2⟩ (by omega) (by omega) (by omega) (by omega)) rfl rfl (by decide) (Nat.le_of_ble_eq_true rfl) (fun cg2 hcg2 => ?_)
        have i2cg2 : cg2 d 2 = nI (sl S) := by rw [hcg2, ce_mv_ne (by omega)]; exact Mcg1.1.2.1
        have i9cg2 : cg2 d 9 = nI (sn S) := by rw [hcg2, ce_mv_ne (by omega)]; exact Mcg1.2.2.1.2.1
        have Rcg2 : cr_row (cg2 (d + 3)) (kq (sKS S s)) (sOS S s) := by rw [hcg2]; exact (Mcg1.2.2.2.2 s hs hF).eq (fun i hi => by rw [ce_mv_in (by omega), Nat.sub_zero])
        refine ce_aload_n dX8_restore_57 rfl ?_
        refine ce_iconst (v := nI (0)) dX8_restore_58 (by decide) ?_
        refine ce_putI dX8_restore_59 pRX8_47 hD.1 rfl rfl ?_
        generalize hcg3 : ce_up cg2 (d) 9 (nI (0)) = cg3
        have i2cg3 : cg3 d 2 = nI (sl S) := by rw [← hcg3, ce_up_j (by decide)]; exact i2cg2
        have i9cg3 : cg3 d 9 = nI (0) := by rw [← hcg3]; exact ce_up_at _ _ _ _
        have Rcg3 : cr_row (cg3 (d + 3)) (kq (sKS S s)) (sOS S s) := by rw [← hcg3, ce_up_ne _ _ _ (by omega)]; exact Rcg2
        refine ce_aload_n dX8_restore_62 rfl ?_
        refine ce_getR dX8_restore_63 fRX8_16 hD.1 hD.2.1.2.2.1 ?_
        refine ce_cSp dX8_restore_66 hX8_cellar kRX8_158 (n_cellar ⟨(hD.2.2.2.2.1).1, (hD.2.2.2.2.1).2⟩ (ok.2.2.1 s hs hF) Rcg3) rfl rfl (by decide) (Nat.le_of_ble_eq_true rfl) ?_
        refine ce_iret dX8_restore_69 rfl rfl (by decide) (by decide) ?_
        have f9 : ∀ x, x ≠ d → x ≠ d + 3 → cg3 x = cg1 x := fun x h1 h2 => by rw [← hcg3, ce_up_ne _ _ _ h1, hcg2, ce_mv_ne h2]
        have f0 : ∀ k, k ≠ 9 → cg3 d k = cg1 d k := fun k hk => by rw [← hcg3, ce_up_j hk, hcg2, ce_mv_ne (by omega)]
        exact ⟨_, rfl, rfl, rfl, (f0 0 (by decide)).trans zcg1, rM_set Mcg1 (Nat.zero_le _) i9cg3 (f0 2 (by decide)) Rcg3 f9, fun x hx => (f9 x (by omega) (by omega)).trans (ycg1 x hx)⟩
      · omega
  · refine ce_iconst (v := nI (1)) dX8_restore_11 (by decide) ?_
    refine ce_goto (tgt := 29) dX8_restore_12 (by decide) ?_
    exfalso
    (try unfold ce_in at *)
    first | omega | contradiction
set_option maxHeartbeats 2000000 in
set_option maxRecDepth 20000 in
theorem m_X8_append_ok {σ : ce_S} {g : ce_D} (d : Nat) (S : ks_S) (hD : ce_LM σ d) (hr : ce_rM g d S) (ok : ks_ok S) (c9 : Nat) (hc : c9 < 256) (hl : sl S < 120) : ce_CT (ce_r 5) mX8_append [.ref (d), .int (nI (c9))] σ g (ce_rv σ (fun z9 g1 => z9 = nI (sl S + 1) ∧ g1 d 0 = nI 0 ∧ ce_rM g1 d (ks_app S c9) ∧ ce_fr d (d + 11) g g1)) ce_no := by
  have hB := ok.1.i7
  have hM := ok.1.me
  have hW := ok.1.wi
  have hst := ok.1.st
  have h14 : sn S ≤ 14 := hr.2.2.1.1
  have h120 : sl S ≤ 120 := hr.1.1
  have ec := nI_toInt (n := c9) (by omega)
  refine ce_enter (by decide) rfl (Nat.le_of_ble_eq_true rfl) (L := [some (.ref (d)), some (.int (nI (c9)))]) rfl ?_
  refine ce_aload_n dX8_append_0 rfl ?_
  refine ce_iload_n dX8_append_1 rfl ?_
  refine ce_i2l (v := (nI (c9)).toInt64) dX8_append_2 rfl ?_
  refine ce_lconst (v := 0) dX8_append_3 (by decide) ?_
  refine ce_ldc2 dX8_append_4 kRX8_106 ?_
  refine ce_cSp dX8_append_7 hX8_in kRX8_108 (m_X8_in ((nI (c9)).toInt64) (0) (255) ((0 : Int) ≤ ((c9 : Nat) : Int) ∧ ((c9 : Nat) : Int) ≤ (255 : Int)) (cr_io ((cr_tl (nI (c9))).trans (nI_toInt (by omega))) (by decide) (by decide))) rfl rfl (by decide) (Nat.le_of_ble_eq_true rfl) ?_
  refine ce_if_neB (tgt := 17) dX8_append_10 (by decide) rfl (fun c_10 => ?_) (fun c_10 => ?_)
  · refine ce_aload_n dX8_append_17 rfl ?_
    refine ce_getIv dX8_append_18 fRX8_112 hD.1 hr.1.2.1 ?_
    refine ce_bipush (v := nI (120)) dX8_append_21 (by decide) ?_
    refine ce_icmp_neN (tgt := 30) dX8_append_23 (by decide) rfl rfl (by omega) (by omega) (fun c_23 => ?_) (fun c_23 => ?_)
    · refine ce_iconst (v := nI (0)) dX8_append_30 (by decide) ?_
      refine ce_cVr dX8_append_31 hX8_refused kRX8_115 (m_X8_refused0 d hD) rfl rfl hD.1 rfl (by decide) (Nat.le_of_ble_eq_true rfl) (fun rcg1 cg1 hcg1 => ?_)
      obtain ⟨ecg1, hcg1⟩ := hcg1
      have ecg1 : rcg1 = nI 0 := ecg1
      subst ecg1
      have Mcg1 : ce_rM cg1 d S := by rw [hcg1]; exact rM_ref hr
      have zcg1 : cg1 d 0 = nI 0 := by rw [hcg1]; exact ce_up_at _ _ _ _
      have ycg1 : ce_fr d (d + 11) g cg1 := fun x hx => by rw [hcg1]; exact ce_up_ne _ _ _ (by omega)
      refine ce_if_eqN (tgt := 39) dX8_append_34 (by decide) rfl (by omega) (fun c_34 => ?_) (fun c_34 => ?_)
      · refine ce_aload_n dX8_append_39 rfl ?_
        refine ce_getR dX8_append_40 fRX8_7 hD.1 hD.2.1.1 ?_
        refine ce_aload_n dX8_append_43 rfl ?_
        refine ce_getIv dX8_append_44 fRX8_112 hD.1 Mcg1.1.2.1 ?_
        refine ce_iload_n dX8_append_47 rfl ?_
        refine ce_iast dX8_append_48 (hD.2.2.1).1 rfl (hD.2.2.1).2 (by omega) (by decide) ?_
        generalize hcg2 : ce_up cg1 (d + 1) (sl S) (nI (c9)) = cg2
        have i2cg2 : cg2 d 2 = nI (sl S) := by rw [← hcg2, ce_up_ne _ _ _ (by omega)]; exact Mcg1.1.2.1
        have i9cg2 : cg2 d 9 = nI (sn S) := by rw [← hcg2, ce_up_ne _ _ _ (by omega)]; exact Mcg1.2.2.1.2.1
        have Rcg2 : cr_row (cg2 (d + 3)) (kq (sK S)) (sO S) := by rw [← hcg2, ce_up_ne _ _ _ (by omega)]; exact Mcg1.2.1
        refine ce_aload_n dX8_append_49 rfl ?_
        refine ce_dup dX8_append_50 rfl ?_
        refine ce_getIv dX8_append_51 fRX8_112 hD.1 i2cg2 ?_
        refine ce_iconst (v := nI (1)) dX8_append_54 (by decide) ?_
        refine ce_iadd (z := nI (sl S + 1)) dX8_append_55 (nI_add _ _) ?_
        refine ce_putI dX8_append_56 pRX8_112 hD.1 rfl rfl ?_
        generalize hcg3 : ce_up cg2 (d) 2 (nI (sl S + 1)) = cg3
        have i9cg3 : cg3 d 9 = nI (sn S) := by rw [← hcg3, ce_up_j (by decide)]; exact i9cg2
        have i2cg3 : cg3 d 2 = nI (sl S + 1) := by rw [← hcg3]; exact ce_up_at _ _ _ _
        have Rcg3 : cr_row (cg3 (d + 3)) (kq (sK S)) (sO S) := by rw [← hcg3, ce_up_ne _ _ _ (by omega)]; exact Rcg2
        refine ce_aload_n dX8_append_59 rfl ?_
        refine ce_getIv dX8_append_60 fRX8_112 hD.1 i2cg3 ?_
        refine ce_iret dX8_append_63 rfl rfl (by decide) (by decide) ?_
        have f9 : ∀ x, x ≠ d → x ≠ d + 1 → cg3 x = cg1 x := fun x h1 h2 => by rw [← hcg3, ce_up_ne _ _ _ h1, ← hcg2, ce_up_ne _ _ _ h2]
        have f0 : ∀ k, k ≠ 2 → cg3 d k = cg1 d k := fun k hk => by rw [← hcg3, ce_up_j hk, ← hcg2, ce_up_ne _ _ _ (by omega)]
        have hT : ∀ i, i < sl S + 1 → cg3 (d + 1) i = nI (if i = sl S then c9 else sT S i) := fun i hi => by
          rw [← hcg3, ce_up_ne _ _ _ (by omega), ← hcg2, ce_up_eq]
          unfold upd
          by_cases q : i = sl S
          · rw [if_pos q, if_pos q]
          · rw [if_neg q, if_neg q]; exact Mcg1.1.2.2 i (by omega)
        exact ⟨_, rfl, rfl, rfl, (f0 0 (by decide)).trans zcg1, rM_text Mcg1 (by omega) i2cg3 (f0 9 (by decide)) hT f9, fun x hx => (f9 x (by omega) (by omega)).trans (ycg1 x hx)⟩
      · omega
    · refine ce_iconst (v := nI (2)) dX8_append_26 (by decide) ?_
      refine ce_goto (tgt := 31) dX8_append_27 (by decide) ?_
      exfalso
      (try unfold ce_in at *)
      first | omega | contradiction
  · refine ce_iconst (v := nI (1)) dX8_append_13 (by decide) ?_
    refine ce_goto (tgt := 31) dX8_append_14 (by decide) ?_
    exfalso
    (try unfold ce_in at *)
    first | omega | contradiction
set_option maxHeartbeats 2000000 in
set_option maxRecDepth 20000 in
theorem m_X8_append_no {σ : ce_S} {g : ce_D} (d : Nat) (S : ks_S) (hD : ce_LM σ d) (hr : ce_rM g d S) (ok : ks_ok S) (x : Int32) (f : Nat) (hf : kx_addF S x = f) (h0 : f ≠ 0) : ce_CT (ce_r 5) mX8_append [.ref (d), .int (x)] σ g (ce_rv σ (fun z9 g1 => g1 d 0 = nI (f - 1) ∧ ce_rM g1 d S ∧ ce_fr d (d + 11) g g1)) ce_no := by
  have hB := ok.1.i7
  have hM := ok.1.me
  have hW := ok.1.wi
  have hst := ok.1.st
  have h14 : sn S ≤ 14 := hr.2.2.1.1
  have h120 : sl S ≤ 120 := hr.1.1
  refine ce_enter (by decide) rfl (Nat.le_of_ble_eq_true rfl) (L := [some (.ref (d)), some (.int (x))]) rfl ?_
  refine ce_aload_n dX8_append_0 rfl ?_
  refine ce_iload_n dX8_append_1 rfl ?_
  refine ce_i2l (v := (x).toInt64) dX8_append_2 rfl ?_
  refine ce_lconst (v := 0) dX8_append_3 (by decide) ?_
  refine ce_ldc2 dX8_append_4 kRX8_106 ?_
  refine ce_cSp dX8_append_7 hX8_in kRX8_108 (m_X8_in ((x).toInt64) (0) (255) ((0 : Int) ≤ (x).toInt ∧ (x).toInt ≤ (255 : Int)) (cr_io ((cr_tl (x)).trans rfl) (by decide) (by decide))) rfl rfl (by decide) (Nat.le_of_ble_eq_true rfl) ?_
  refine ce_if_neB (tgt := 17) dX8_append_10 (by decide) rfl (fun c_10 => ?_) (fun c_10 => ?_)
  · refine ce_aload_n dX8_append_17 rfl ?_
    refine ce_getIv dX8_append_18 fRX8_112 hD.1 hr.1.2.1 ?_
    refine ce_bipush (v := nI (120)) dX8_append_21 (by decide) ?_
    refine ce_icmp_neN (tgt := 30) dX8_append_23 (by decide) rfl rfl (by omega) (by omega) (fun c_23 => ?_) (fun c_23 => ?_)
    · refine ce_iconst (v := nI (0)) dX8_append_30 (by decide) ?_
      have ef : f = 0 := hf.symm.trans (show kx_addF S x = 0 by unfold kx_addF; (try unfold ce_n); (try simp only [Int.toNat_natCast]); (try unfold ce_in at *); (repeat' split) <;> first | rfl | (exfalso; omega))
      exact absurd ef h0
    · refine ce_iconst (v := nI (2)) dX8_append_26 (by decide) ?_
      refine ce_goto (tgt := 31) dX8_append_27 (by decide) ?_
      have ef : f = 3 := hf.symm.trans (show kx_addF S x = 3 by unfold kx_addF; (try unfold ce_n); (try simp only [Int.toNat_natCast]); (try unfold ce_in at *); (repeat' split) <;> first | rfl | (exfalso; omega))
      refine ce_cVr dX8_append_31 hX8_refused kRX8_115 (m_X8_refused2 d hD) rfl rfl hD.1 rfl (by decide) (Nat.le_of_ble_eq_true rfl) (fun rcg1 cg1 hcg1 => ?_)
      obtain ⟨ecg1, hcg1⟩ := hcg1
      have ecg1 : rcg1 = nI 1 := ecg1
      subst ecg1
      have Mcg1 : ce_rM cg1 d S := by rw [hcg1]; exact rM_ref hr
      have zcg1 : cg1 d 0 = nI 2 := by rw [hcg1]; exact ce_up_at _ _ _ _
      have ycg1 : ce_fr d (d + 11) g cg1 := fun x hx => by rw [hcg1]; exact ce_up_ne _ _ _ (by omega)
      refine ce_if_eqN (tgt := 39) dX8_append_34 (by decide) rfl (by omega) (fun c_34 => ?_) (fun c_34 => ?_)
      · omega
      · refine ce_iconst (v := nI (0)) dX8_append_37 (by decide) ?_
        refine ce_iret dX8_append_38 rfl rfl (by decide) (by decide) ?_
        exact ⟨_, rfl, rfl, by rw [ef]; exact zcg1, Mcg1, ycg1⟩
  · refine ce_iconst (v := nI (1)) dX8_append_13 (by decide) ?_
    refine ce_goto (tgt := 31) dX8_append_14 (by decide) ?_
    have ef : f = 2 := hf.symm.trans (show kx_addF S x = 2 by unfold kx_addF; (try unfold ce_n); (try simp only [Int.toNat_natCast]); (try unfold ce_in at *); (repeat' split) <;> first | rfl | (exfalso; omega))
    refine ce_cVr dX8_append_31 hX8_refused kRX8_115 (m_X8_refused1 d hD) rfl rfl hD.1 rfl (by decide) (Nat.le_of_ble_eq_true rfl) (fun rcg1 cg1 hcg1 => ?_)
    obtain ⟨ecg1, hcg1⟩ := hcg1
    have ecg1 : rcg1 = nI 1 := ecg1
    subst ecg1
    have Mcg1 : ce_rM cg1 d S := by rw [hcg1]; exact rM_ref hr
    have zcg1 : cg1 d 0 = nI 1 := by rw [hcg1]; exact ce_up_at _ _ _ _
    have ycg1 : ce_fr d (d + 11) g cg1 := fun x hx => by rw [hcg1]; exact ce_up_ne _ _ _ (by omega)
    refine ce_if_eqN (tgt := 39) dX8_append_34 (by decide) rfl (by omega) (fun c_34 => ?_) (fun c_34 => ?_)
    · omega
    · refine ce_iconst (v := nI (0)) dX8_append_37 (by decide) ?_
      refine ce_iret dX8_append_38 rfl rfl (by decide) (by decide) ?_
      exact ⟨_, rfl, rfl, by rw [ef]; exact zcg1, Mcg1, ycg1⟩
set_option maxHeartbeats 2000000 in
set_option maxRecDepth 20000 in
theorem m_X8_clearText_ok {σ : ce_S} {g : ce_D} (d : Nat) (S : ks_S) (hD : ce_LM σ d) (hr : ce_rM g d S) (ok : ks_ok S) : ce_CT (ce_r 5) mX8_clearText [.ref (d)] σ g (ce_rv σ (fun z9 g1 => z9 = nI (sl S) ∧ g1 d 0 = nI 0 ∧ ce_rM g1 d (ks_wipe S) ∧ ce_fr d (d + 11) g g1)) ce_no := by
  have hB := ok.1.i7
  have hM := ok.1.me
  have hW := ok.1.wi
  have hst := ok.1.st
  have h14 : sn S ≤ 14 := hr.2.2.1.1
  have h120 : sl S ≤ 120 := hr.1.1
  refine ce_enter (by decide) rfl (Nat.le_of_ble_eq_true rfl) (L := [some (.ref (d)), none]) rfl ?_
  refine ce_aload_n dX8_clearText_0 rfl ?_
  refine ce_iconst (v := nI (0)) dX8_clearText_1 (by decide) ?_
  refine ce_putI dX8_clearText_2 pRX8_41 hD.1 rfl rfl ?_
  generalize hcg1 : ce_up g (d) 0 (nI (0)) = cg1
  have i2cg1 : cg1 d 2 = nI (sl S) := by rw [← hcg1, ce_up_j (by decide)]; exact hr.1.2.1
  have i9cg1 : cg1 d 9 = nI (sn S) := by rw [← hcg1, ce_up_j (by decide)]; exact hr.2.2.1.2.1
  have zcg1 : cg1 d 0 = nI (0) := by rw [← hcg1]; exact ce_up_at _ _ _ _
  have Rcg1 : cr_row (cg1 (d + 3)) (kq (sK S)) (sO S) := by rw [← hcg1, ce_up_ne _ _ _ (by omega)]; exact hr.2.1
  refine ce_aload_n dX8_clearText_5 rfl ?_
  refine ce_getIv dX8_clearText_6 fRX8_112 hD.1 i2cg1 ?_
  refine ce_istore_n dX8_clearText_9 (Nat.le_of_ble_eq_true rfl) rfl ?_
  refine ce_aload_n dX8_clearText_10 rfl ?_
  refine ce_iconst (v := nI (0)) dX8_clearText_11 (by decide) ?_
  refine ce_putI dX8_clearText_12 pRX8_112 hD.1 rfl rfl ?_
  generalize hcg2 : ce_up cg1 (d) 2 (nI (0)) = cg2
  have i9cg2 : cg2 d 9 = nI (sn S) := by rw [← hcg2, ce_up_j (by decide)]; exact i9cg1
  have i2cg2 : cg2 d 2 = nI (0) := by rw [← hcg2]; exact ce_up_at _ _ _ _
  have Rcg2 : cr_row (cg2 (d + 3)) (kq (sK S)) (sO S) := by rw [← hcg2, ce_up_ne _ _ _ (by omega)]; exact Rcg1
  refine ce_iload_n dX8_clearText_15 rfl ?_
  refine ce_iret dX8_clearText_16 rfl rfl (by decide) (by decide) ?_
  have f9 : ∀ x, x ≠ d → cg2 x = g x := fun x h1 => by rw [← hcg2, ce_up_ne _ _ _ h1, ← hcg1, ce_up_ne _ _ _ h1]
  have f0 : ∀ k, k ≠ 2 → cg2 d k = cg1 d k := fun k hk => by rw [← hcg2, ce_up_j hk]
  exact ⟨_, rfl, rfl, rfl, (f0 0 (by decide)).trans zcg1, rM_text hr (Nat.zero_le _) i2cg2 ((f0 9 (by decide)).trans (by rw [← hcg1, ce_up_j (by decide)])) (fun i hi => absurd hi (Nat.not_lt_zero i)) (fun x h1 _ => f9 x h1), fun x hx => f9 x (by omega)⟩
