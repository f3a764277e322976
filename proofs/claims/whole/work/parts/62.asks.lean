/-! sums: the class adds over all places, the reference over those that are taken -/
theorem kq_36 (f : Nat → Nat) : ce_sum f 36 = ce_sum (fun w => ce_sum (fun m => f (m * 6 + w)) 6) 6 := by
  simp only [ce_sum, Nat.zero_mul, Nat.reduceMul, Nat.reduceAdd, Nat.zero_add, Nat.add_zero, Nat.one_mul]
  omega
theorem kq_cel {K : ce_V} (h : kv_cl K) : ce_sum (K 12) (K 0 2) = ce_sum (K 9) 36 := by
  have e1 : ce_sum (K 9) 36 = ce_sum (fun w => kv_bs K w) 6 := by
    rw [kq_36]
    exact ce_sum_cong (fun w hw => (h.bi w hw).symm)
  have e2 : ce_sum (fun w => kv_bs K w) 6 = ce_sum (fun b => ce_sum (fun w => if K 13 b = w + 1 then K 12 b else 0) 6) 8 := by
    unfold kv_bs
    simp only [ce_sum]
    omega
  have e3 : ce_sum (fun b => ce_sum (fun w => if K 13 b = w + 1 then K 12 b else 0) 6) 8 = ce_sum (K 12) 8 := ce_sum_cong (fun b _ => by
    by_cases q : K 12 b = 0
    · rw [q]
      exact ce_sum_z (fun w _ => by split <;> rfl)
    · have := h.rk.2.2.2.1 b (by omega)
      have hc : K 13 b = 1 ∨ K 13 b = 2 ∨ K 13 b = 3 ∨ K 13 b = 4 ∨ K 13 b = 5 ∨ K 13 b = 6 := by omega
      rcases hc with e | e | e | e | e | e <;> rw [e] <;> simp [ce_sum])
  rw [e1, e2, e3]
  exact (ce_sum_end h.i7 (fun b hb _ => h.rk.z hb)).symm
theorem kq_zw {K : ce_V} (h : kv_cl K) {w : Nat} (hw : w < 6) (h1 : K 0 1 ≤ w) : K 4 w = 0 ∧ K 6 w = 0 ∧ kv_sum K 10 w = 0 ∧ ∀ m, m < 6 → K 9 (m * 6 + w) = 0 := by
  have h2 := h.bo w hw
  have h3 := h.zw w hw h1
  exact ⟨by omega, by omega, by omega, fun m hm => (h.z9 w hw (by omega) m hm).1⟩
theorem kq_w4 {K : ce_V} (h : kv_cl K) : ce_sum (K 4) (K 0 1) = ce_sum (K 4) 6 := (ce_sum_end h.wi (fun w h1 h2 => (kq_zw h h2 h1).1)).symm
theorem kq_w6 {K : ce_V} (h : kv_cl K) : ce_sum (K 6) (K 0 1) = ce_sum (K 6) 6 := (ce_sum_end h.wi (fun w h1 h2 => (kq_zw h h2 h1).2.1)).symm
theorem kq_w10 {K : ce_V} (h : kv_cl K) : ce_sum (kq K 15) (K 0 1) = ce_sum (K 10) 36 := by
  rw [kq_36, ce_sum_cong (F := fun w => kv_sum K 10 w) (fun w _ => kq_15)]
  exact (ce_sum_end h.wi (fun w h1 h2 => (kq_zw h h2 h1).2.2.1)).symm
theorem kq_m9 {K : ce_V} (h : kv_cl K) {m : Nat} (hm : m < 6) : ce_sum (fun w => K 9 (m * 6 + w)) (K 0 1) = ce_sum (fun w => K 9 (m * 6 + w)) 6 := (ce_sum_end h.wi (fun w h1 h2 => (kq_zw h h2 h1).2.2.2 m hm)).symm
def ko_z (K : ce_V) (O : Nat → Int32) : Prop := ∀ m, K 0 0 ≤ m → m < 6 → O m = 0
theorem kq_isum {K : ce_V} {O : Nat → Int32} (h : K 0 0 ≤ 6) (hz : ko_z K O) : ce_isum O (K 0 0) = ce_isum O 6 := by
  have key : ∀ j, K 0 0 + j ≤ 6 → ce_isum O (K 0 0 + j) = ce_isum O (K 0 0) := fun j => by
    induction j with
    | zero => intro _; rfl
    | succ j ih =>
      intro hj
      rw [← Nat.add_assoc, ce_isum, ih (by omega), hz (K 0 0 + j) (by omega) (by omega), Int32.add_zero]
  have := key (6 - K 0 0) (by omega)
  rw [show K 0 0 + (6 - K 0 0) = 6 by omega] at this
  exact this.symm
def kx_memG (K : ce_V) (x z : Int32) : Nat := if ce_in x (K 0 0) then kx_ran z 0 3 else 1
def kx_winG (K : ce_V) (x z : Int32) : Nat := if ce_in x (K 0 1) then kx_ran z 0 8 else 1
def kx_binG (K : ce_V) (x z : Int32) : Nat := if ce_in x (K 0 2) then kx_ran z 0 2 else 1
def kx_hasG (K : ce_V) (x y z : Int32) : Nat := if ce_in x (K 0 0) ∧ ce_in y (K 0 1) then kx_ran z 0 2 else 1
def kx_wF (K : ce_V) (y : Int32) : Nat := if ce_in y (K 0 1) then 0 else 1
def kx_bF (K : ce_V) (x y : Int32) : Nat := if ce_in x (K 0 0) ∧ ce_in y (K 0 1) then 0 else 1
def kx_slF (x : Int32) : Nat := if ce_in x 2 then 0 else 1
set_option maxHeartbeats 2000000 in
set_option maxRecDepth 20000 in
theorem m_X8_about_no {σ : ce_S} {g : ce_D} (d : Nat) (S : ks_S) (hD : ce_LM σ d) (hr : ce_rM g d S) (ok : ks_ok S) (z : Int32) (f : Nat) (hf : kx_ran z 0 9 = f) (h0 : f ≠ 0) : ce_CT (ce_r 5) mX8_about [.ref (d), .int (z)] σ g (ce_rv σ (fun z9 g1 => g1 d 0 = nI (f - 1) ∧ ce_rM g1 d S ∧ ce_fr d (d + 11) g g1)) ce_no := by
  have hB := ok.1.i7
  have hM := ok.1.me
  have hW := ok.1.wi
  have hst := ok.1.st
  refine ce_enter (by decide) rfl (Nat.le_of_ble_eq_true rfl) (L := [some (.ref (d)), some (.int (z))]) rfl ?_
  refine ce_aload_n dX8_about_0 rfl ?_
  refine ce_iload_n dX8_about_1 rfl ?_
  refine ce_i2l (v := (z).toInt64) dX8_about_2 rfl ?_
  refine ce_lconst (v := 0) dX8_about_3 (by decide) ?_
  refine ce_ldc2 dX8_about_4 kRX8_126 ?_
  refine ce_cSp dX8_about_7 hX8_in kRX8_108 (m_X8_in ((z).toInt64) (0) (9) ((0 : Int) ≤ (z).toInt ∧ (z).toInt ≤ (9 : Int)) (cr_io ((cr_tl (z)).trans rfl) (by decide) (by decide))) rfl rfl (by decide) (Nat.le_of_ble_eq_true rfl) ?_
  refine ce_if_eqB (tgt := 17) dX8_about_10 (by decide) rfl (fun c_10 => ?_) (fun c_10 => ?_)
  · refine ce_iconst (v := nI (1)) dX8_about_17 (by decide) ?_
    have ef : f = 2 := hf.symm.trans (show kx_ran z 0 9 = 2 by unfold kx_ran; (try unfold ce_n); (try simp only [Int.toNat_natCast]); (try unfold ce_in at *); (repeat' split) <;> first | rfl | (exfalso; omega))
    refine ce_cVr dX8_about_18 hX8_refused kRX8_115 (m_X8_refused1 d hD) rfl rfl hD.1 rfl (by decide) (Nat.le_of_ble_eq_true rfl) (fun rcg1 cg1 hcg1 => ?_)
    obtain ⟨ecg1, hcg1⟩ := hcg1
    have ecg1 : rcg1 = nI 1 := ecg1
    subst ecg1
    have Mcg1 : ce_rM cg1 d S := by rw [hcg1]; exact rM_ref hr
    have zcg1 : cg1 d 0 = nI 1 := by rw [hcg1]; exact ce_up_at _ _ _ _
    have ycg1 : ce_fr d (d + 11) g cg1 := fun x hx => by rw [hcg1]; exact ce_up_ne _ _ _ (by omega)
    refine ce_if_eqN (tgt := 26) dX8_about_21 (by decide) rfl (by omega) (fun c_21 => ?_) (fun c_21 => ?_)
    · omega
    · refine ce_iconst (v := nI (0)) dX8_about_24 (by decide) ?_
      refine ce_iret dX8_about_25 rfl rfl (by decide) (by decide) ?_
      exact ⟨_, rfl, rfl, by rw [ef]; exact zcg1, Mcg1, ycg1⟩
  · refine ce_iconst (v := nI (0)) dX8_about_13 (by decide) ?_
    refine ce_goto (tgt := 18) dX8_about_14 (by decide) ?_
    have ef : f = 0 := hf.symm.trans (show kx_ran z 0 9 = 0 by unfold kx_ran; (try unfold ce_n); (try simp only [Int.toNat_natCast]); (try unfold ce_in at *); (repeat' split) <;> first | rfl | (exfalso; omega))
    exact absurd ef h0
set_option maxHeartbeats 2000000 in
set_option maxRecDepth 20000 in
theorem m_X8_member_no {σ : ce_S} {g : ce_D} (d : Nat) (S : ks_S) (hD : ce_LM σ d) (hr : ce_rM g d S) (ok : ks_ok S) (x z : Int32) (f : Nat) (hf : kx_memG (sK S) x z = f) (h0 : f ≠ 0) : ce_CT (ce_r 5) mX8_member [.ref (d), .int (x), .int (z)] σ g (ce_rv σ (fun z9 g1 => g1 d 0 = nI (f) ∧ ce_rM g1 d S ∧ ce_fr d (d + 11) g g1)) ce_no := by
  have hB := ok.1.i7
  have hM := ok.1.me
  have hW := ok.1.wi
  have hst := ok.1.st
  refine ce_enter (by decide) rfl (Nat.le_of_ble_eq_true rfl) (L := [some (.ref (d)), some (.int (x)), some (.int (z))]) rfl ?_
  refine ce_aload_n dX8_member_0 rfl ?_
  refine ce_aload_n dX8_member_1 rfl ?_
  refine ce_iload_n dX8_member_2 rfl ?_
  refine ce_cVp dX8_member_3 hX8_isMember kRX8_174 (n_isMember d (sK S) (sO S) hD hr.2.1 (x) (by omega)) rfl rfl hD.1 rfl (by decide) (Nat.le_of_ble_eq_true rfl) ?_
  refine ce_if_neB (tgt := 13) dX8_member_6 (by decide) rfl (fun c_6 => ?_) (fun c_6 => ?_)
  · refine ce_iload_n dX8_member_13 rfl ?_
    refine ce_i2l (v := (z).toInt64) dX8_member_14 rfl ?_
    refine ce_lconst (v := 0) dX8_member_15 (by decide) ?_
    refine ce_ldc2 dX8_member_16 kRX8_177 ?_
    refine ce_cSp dX8_member_19 hX8_in kRX8_108 (m_X8_in ((z).toInt64) (0) (3) ((0 : Int) ≤ (z).toInt ∧ (z).toInt ≤ (3 : Int)) (cr_io ((cr_tl (z)).trans rfl) (by decide) (by decide))) rfl rfl (by decide) (Nat.le_of_ble_eq_true rfl) ?_
    refine ce_if_eqB (tgt := 29) dX8_member_22 (by decide) rfl (fun c_22 => ?_) (fun c_22 => ?_)
    · refine ce_iconst (v := nI (2)) dX8_member_29 (by decide) ?_
      have ef : f = 2 := hf.symm.trans (show kx_memG (sK S) x z = 2 by unfold kx_memG kx_ran; (try unfold ce_n); (try simp only [Int.toNat_natCast]); (try unfold ce_in at *); (repeat' split) <;> first | rfl | (exfalso; omega))
      refine ce_cVr dX8_member_30 hX8_refused kRX8_115 (m_X8_refused2 d hD) rfl rfl hD.1 rfl (by decide) (Nat.le_of_ble_eq_true rfl) (fun rcg1 cg1 hcg1 => ?_)
      obtain ⟨ecg1, hcg1⟩ := hcg1
      have ecg1 : rcg1 = nI 1 := ecg1
      subst ecg1
      have Mcg1 : ce_rM cg1 d S := by rw [hcg1]; exact rM_ref hr
      have zcg1 : cg1 d 0 = nI 2 := by rw [hcg1]; exact ce_up_at _ _ _ _
      have ycg1 : ce_fr d (d + 11) g cg1 := fun x hx => by rw [hcg1]; exact ce_up_ne _ _ _ (by omega)
      refine ce_if_eqN (tgt := 38) dX8_member_33 (by decide) rfl (by omega) (fun c_33 => ?_) (fun c_33 => ?_)
      · omega
      · refine ce_iconst (v := nI (0)) dX8_member_36 (by decide) ?_
        refine ce_iret dX8_member_37 rfl rfl (by decide) (by decide) ?_
        exact ⟨_, rfl, rfl, by rw [ef]; exact zcg1, Mcg1, ycg1⟩
    · refine ce_iconst (v := nI (0)) dX8_member_25 (by decide) ?_
      refine ce_goto (tgt := 30) dX8_member_26 (by decide) ?_
      have ef : f = 0 := hf.symm.trans (show kx_memG (sK S) x z = 0 by unfold kx_memG kx_ran; (try unfold ce_n); (try simp only [Int.toNat_natCast]); (try unfold ce_in at *); (repeat' split) <;> first | rfl | (exfalso; omega))
      exact absurd ef h0
  · refine ce_iconst (v := nI (1)) dX8_member_9 (by decide) ?_
    refine ce_goto (tgt := 30) dX8_member_10 (by decide) ?_
    have ef : f = 1 := hf.symm.trans (show kx_memG (sK S) x z = 1 by unfold kx_memG kx_ran; (try unfold ce_n); (try simp only [Int.toNat_natCast]); (try unfold ce_in at *); (repeat' split) <;> first | rfl | (exfalso; omega))
    refine ce_cVr dX8_member_30 hX8_refused kRX8_115 (m_X8_refused1 d hD) rfl rfl hD.1 rfl (by decide) (Nat.le_of_ble_eq_true rfl) (fun rcg1 cg1 hcg1 => ?_)
    obtain ⟨ecg1, hcg1⟩ := hcg1
    have ecg1 : rcg1 = nI 1 := ecg1
    subst ecg1
    have Mcg1 : ce_rM cg1 d S := by rw [hcg1]; exact rM_ref hr
    have zcg1 : cg1 d 0 = nI 1 := by rw [hcg1]; exact ce_up_at _ _ _ _
    have ycg1 : ce_fr d (d + 11) g cg1 := fun x hx => by rw [hcg1]; exact ce_up_ne _ _ _ (by omega)
    refine ce_if_eqN (tgt := 38) dX8_member_33 (by decide) rfl (by omega) (fun c_33 => ?_) (fun c_33 => ?_)
    · omega
    · refine ce_iconst (v := nI (0)) dX8_member_36 (by decide) ?_
      refine ce_iret dX8_member_37 rfl rfl (by decide) (by decide) ?_
      exact ⟨_, rfl, rfl, by rw [ef]; exact zcg1, Mcg1, ycg1⟩
set_option maxHeartbeats 2000000 in
set_option maxRecDepth 20000 in
theorem m_X8_wine_no {σ : ce_S} {g : ce_D} (d : Nat) (S : ks_S) (hD : ce_LM σ d) (hr : ce_rM g d S) (ok : ks_ok S) (x z : Int32) (f : Nat) (hf : kx_winG (sK S) x z = f) (h0 : f ≠ 0) : ce_CT (ce_r 5) mX8_wine [.ref (d), .int (x), .int (z)] σ g (ce_rv σ (fun z9 g1 => g1 d 0 = nI (f) ∧ ce_rM g1 d S ∧ ce_fr d (d + 11) g g1)) ce_no := by
  have hB := ok.1.i7
  have hM := ok.1.me
  have hW := ok.1.wi
  have hst := ok.1.st
  refine ce_enter (by decide) rfl (Nat.le_of_ble_eq_true rfl) (L := [some (.ref (d)), some (.int (x)), some (.int (z))]) rfl ?_
  refine ce_aload_n dX8_wine_0 rfl ?_
  refine ce_aload_n dX8_wine_1 rfl ?_
  refine ce_iload_n dX8_wine_2 rfl ?_
  refine ce_cVp dX8_wine_3 hX8_isWine kRX8_182 (n_isWine d (sK S) (sO S) hD hr.2.1 (x) (by omega)) rfl rfl hD.1 rfl (by decide) (Nat.le_of_ble_eq_true rfl) ?_
  refine ce_if_neB (tgt := 13) dX8_wine_6 (by decide) rfl (fun c_6 => ?_) (fun c_6 => ?_)
  · refine ce_iload_n dX8_wine_13 rfl ?_
    refine ce_i2l (v := (z).toInt64) dX8_wine_14 rfl ?_
    refine ce_lconst (v := 0) dX8_wine_15 (by decide) ?_
    refine ce_ldc2 dX8_wine_16 kRX8_185 ?_
    refine ce_cSp dX8_wine_19 hX8_in kRX8_108 (m_X8_in ((z).toInt64) (0) (8) ((0 : Int) ≤ (z).toInt ∧ (z).toInt ≤ (8 : Int)) (cr_io ((cr_tl (z)).trans rfl) (by decide) (by decide))) rfl rfl (by decide) (Nat.le_of_ble_eq_true rfl) ?_
    refine ce_if_eqB (tgt := 29) dX8_wine_22 (by decide) rfl (fun c_22 => ?_) (fun c_22 => ?_)
    · refine ce_iconst (v := nI (2)) dX8_wine_29 (by decide) ?_
      have ef : f = 2 := hf.symm.trans (show kx_winG (sK S) x z = 2 by unfold kx_winG kx_ran; (try unfold ce_n); (try simp only [Int.toNat_natCast]); (try unfold ce_in at *); (repeat' split) <;> first | rfl | (exfalso; omega))
      refine ce_cVr dX8_wine_30 hX8_refused kRX8_115 (m_X8_refused2 d hD) rfl rfl hD.1 rfl (by decide) (Nat.le_of_ble_eq_true rfl) (fun rcg1 cg1 hcg1 => ?_)
      obtain ⟨ecg1, hcg1⟩ := hcg1
      have ecg1 : rcg1 = nI 1 := ecg1
      subst ecg1
      have Mcg1 : ce_rM cg1 d S := by rw [hcg1]; exact rM_ref hr
      have zcg1 : cg1 d 0 = nI 2 := by rw [hcg1]; exact ce_up_at _ _ _ _
      have ycg1 : ce_fr d (d + 11) g cg1 := fun x hx => by rw [hcg1]; exact ce_up_ne _ _ _ (by omega)
      refine ce_if_eqN (tgt := 38) dX8_wine_33 (by decide) rfl (by omega) (fun c_33 => ?_) (fun c_33 => ?_)
      · omega
      · refine ce_iconst (v := nI (0)) dX8_wine_36 (by decide) ?_
        refine ce_iret dX8_wine_37 rfl rfl (by decide) (by decide) ?_
        exact ⟨_, rfl, rfl, by rw [ef]; exact zcg1, Mcg1, ycg1⟩
    · refine ce_iconst (v := nI (0)) dX8_wine_25 (by decide) ?_
      refine ce_goto (tgt := 30) dX8_wine_26 (by decide) ?_
      have ef : f = 0 := hf.symm.trans (show kx_winG (sK S) x z = 0 by unfold kx_winG kx_ran; (try unfold ce_n); (try simp only [Int.toNat_natCast]); (try unfold ce_in at *); (repeat' split) <;> first | rfl | (exfalso; omega))
      exact absurd ef h0
  · refine ce_iconst (v := nI (1)) dX8_wine_9 (by decide) ?_
    refine ce_goto (tgt := 30) dX8_wine_10 (by decide) ?_
    have ef : f = 1 := hf.symm.trans (show kx_winG (sK S) x z = 1 by unfold kx_winG kx_ran; (try unfold ce_n); (try simp only [Int.toNat_natCast]); (try unfold ce_in at *); (repeat' split) <;> first | rfl | (exfalso; omega))
    refine ce_cVr dX8_wine_30 hX8_refused kRX8_115 (m_X8_refused1 d hD) rfl rfl hD.1 rfl (by decide) (Nat.le_of_ble_eq_true rfl) (fun rcg1 cg1 hcg1 => ?_)
    obtain ⟨ecg1, hcg1⟩ := hcg1
    have ecg1 : rcg1 = nI 1 := ecg1
    subst ecg1
    have Mcg1 : ce_rM cg1 d S := by rw [hcg1]; exact rM_ref hr
    have zcg1 : cg1 d 0 = nI 1 := by rw [hcg1]; exact ce_up_at _ _ _ _
    have ycg1 : ce_fr d (d + 11) g cg1 := fun x hx => by rw [hcg1]; exact ce_up_ne _ _ _ (by omega)
    refine ce_if_eqN (tgt := 38) dX8_wine_33 (by decide) rfl (by omega) (fun c_33 => ?_) (fun c_33 => ?_)
    · omega
    · refine ce_iconst (v := nI (0)) dX8_wine_36 (by decide) ?_
      refine ce_iret dX8_wine_37 rfl rfl (by decide) (by decide) ?_
      exact ⟨_, rfl, rfl, by rw [ef]; exact zcg1, Mcg1, ycg1⟩
set_option maxHeartbeats 2000000 in
set_option maxRecDepth 20000 in
theorem m_X8_bin_no {σ : ce_S} {g : ce_D} (d : Nat) (S : ks_S) (hD : ce_LM σ d) (hr : ce_rM g d S) (ok : ks_ok S) (x z : Int32) (f : Nat) (hf : kx_binG (sK S) x z = f) (h0 : f ≠ 0) : ce_CT (ce_r 5) mX8_bin [.ref (d), .int (x), .int (z)] σ g (ce_rv σ (fun z9 g1 => g1 d 0 = nI (f) ∧ ce_rM g1 d S ∧ ce_fr d (d + 11) g g1)) ce_no := by
  have hB := ok.1.i7
  have hM := ok.1.me
  have hW := ok.1.wi
  have hst := ok.1.st
  refine ce_enter (by decide) rfl (Nat.le_of_ble_eq_true rfl) (L := [some (.ref (d)), some (.int (x)), some (.int (z))]) rfl ?_
  refine ce_aload_n dX8_bin_0 rfl ?_
  refine ce_aload_n dX8_bin_1 rfl ?_
  refine ce_iload_n dX8_bin_2 rfl ?_
  refine ce_cVp dX8_bin_3 hX8_isBin kRX8_187 (n_isBin d (sK S) (sO S) hD hr.2.1 (x) (by omega)) rfl rfl hD.1 rfl (by decide) (Nat.le_of_ble_eq_true rfl) ?_
  refine ce_if_neB (tgt := 13) dX8_bin_6 (by decide) rfl (fun c_6 => ?_) (fun c_6 => ?_)
  · refine ce_iload_n dX8_bin_13 rfl ?_
    refine ce_i2l (v := (z).toInt64) dX8_bin_14 rfl ?_
    refine ce_lconst (v := 0) dX8_bin_15 (by decide) ?_
    refine ce_ldc2 dX8_bin_16 kRX8_190 ?_
    refine ce_cSp dX8_bin_19 hX8_in kRX8_108 (m_X8_in ((z).toInt64) (0) (2) ((0 : Int) ≤ (z).toInt ∧ (z).toInt ≤ (2 : Int)) (cr_io ((cr_tl (z)).trans rfl) (by decide) (by decide))) rfl rfl (by decide) (Nat.le_of_ble_eq_true rfl) ?_
    refine ce_if_eqB (tgt := 29) dX8_bin_22 (by decide) rfl (fun c_22 => ?_) (fun c_22 => ?_)
    · refine ce_iconst (v := nI (2)) dX8_bin_29 (by decide) ?_
      have ef : f = 2 := hf.symm.trans (show kx_binG (sK S) x z = 2 by unfold kx_binG kx_ran; (try unfold ce_n); (try simp only [Int.toNat_natCast]); (try unfold ce_in at *); (repeat' split) <;> first | rfl | (exfalso; omega))
      refine ce_cVr dX8_bin_30 hX8_refused kRX8_115 (m_X8_refused2 d hD) rfl rfl hD.1 rfl (by decide) (Nat.le_of_ble_eq_true rfl) (fun rcg1 cg1 hcg1 => ?_)
      obtain ⟨ecg1, hcg1⟩ := hcg1
      have ecg1 : rcg1 = nI 1 := ecg1
      subst ecg1
      have Mcg1 : ce_rM cg1 d S := by rw [hcg1]; exact rM_ref hr
      have zcg1 : cg1 d 0 = nI 2 := by rw [hcg1]; exact ce_up_at _ _ _ _
      have ycg1 : ce_fr d (d + 11) g cg1 := fun x hx => by rw [hcg1]; exact ce_up_ne _ _ _ (by omega)
      refine ce_if_eqN (tgt := 38) dX8_bin_33 (by decide) rfl (by omega) (fun c_33 => ?_) (fun c_33 => ?_)
      · omega
      · refine ce_iconst (v := nI (0)) dX8_bin_36 (by decide) ?_
        refine ce_iret dX8_bin_37 rfl rfl (by decide) (by decide) ?_
        exact ⟨_, rfl, rfl, by rw [ef]; exact zcg1, Mcg1, ycg1⟩
    · refine ce_iconst (v := nI (0)) dX8_bin_25 (by decide) ?_
      refine ce_goto (tgt := 30) dX8_bin_26 (by decide) ?_
      have ef : f = 0 := hf.symm.trans (show kx_binG (sK S) x z = 0 by unfold kx_binG kx_ran; (try unfold ce_n); (try simp only [Int.toNat_natCast]); (try unfold ce_in at *); (repeat' split) <;> first | rfl | (exfalso; omega))
      exact absurd ef h0
  · refine ce_iconst (v := nI (1)) dX8_bin_9 (by decide) ?_
    refine ce_goto (tgt := 30) dX8_bin_10 (by decide) ?_
    have ef : f = 1 := hf.symm.trans (show kx_binG (sK S) x z = 1 by unfold kx_binG kx_ran; (try unfold ce_n); (try simp only [Int.toNat_natCast]); (try unfold ce_in at *); (repeat' split) <;> first | rfl | (exfalso; omega))
    refine ce_cVr dX8_bin_30 hX8_refused kRX8_115 (m_X8_refused1 d hD) rfl rfl hD.1 rfl (by decide) (Nat.le_of_ble_eq_true rfl) (fun rcg1 cg1 hcg1 => ?_)
    obtain ⟨ecg1, hcg1⟩ := hcg1
    have ecg1 : rcg1 = nI 1 := ecg1
    subst ecg1
    have Mcg1 : ce_rM cg1 d S := by rw [hcg1]; exact rM_ref hr
    have zcg1 : cg1 d 0 = nI 1 := by rw [hcg1]; exact ce_up_at _ _ _ _
    have ycg1 : ce_fr d (d + 11) g cg1 := fun x hx => by rw [hcg1]; exact ce_up_ne _ _ _ (by omega)
    refine ce_if_eqN (tgt := 38) dX8_bin_33 (by decide) rfl (by omega) (fun c_33 => ?_) (fun c_33 => ?_)
    · omega
    · refine ce_iconst (v := nI (0)) dX8_bin_36 (by decide) ?_
      refine ce_iret dX8_bin_37 rfl rfl (by decide) (by decide) ?_
      exact ⟨_, rfl, rfl, by rw [ef]; exact zcg1, Mcg1, ycg1⟩
set_option maxHeartbeats 2000000 in
set_option maxRecDepth 20000 in
theorem m_X8_has_no {σ : ce_S} {g : ce_D} (d : Nat) (S : ks_S) (hD : ce_LM σ d) (hr : ce_rM g d S) (ok : ks_ok S) (x y z : Int32) (f : Nat) (hf : kx_hasG (sK S) x y z = f) (h0 : f ≠ 0) : ce_CT (ce_r 5) mX8_has [.ref (d), .int (x), .int (y), .int (z)] σ g (ce_rv σ (fun z9 g1 => g1 d 0 = nI (f) ∧ ce_rM g1 d S ∧ ce_fr d (d + 11) g g1)) ce_no := by
  have hB := ok.1.i7
  have hM := ok.1.me
  have hW := ok.1.wi
  have hst := ok.1.st
  refine ce_enter (by decide) rfl (Nat.le_of_ble_eq_true rfl) (L := [some (.ref (d)), some (.int (x)), some (.int (y)), some (.int (z))]) rfl ?_
  refine ce_aload_n dX8_has_0 rfl ?_
  refine ce_aload_n dX8_has_1 rfl ?_
  refine ce_iload_n dX8_has_2 rfl ?_
  refine ce_cVp dX8_has_3 hX8_isMember kRX8_174 (n_isMember d (sK S) (sO S) hD hr.2.1 (x) (by omega)) rfl rfl hD.1 rfl (by decide) (Nat.le_of_ble_eq_true rfl) ?_
  refine ce_if_eqB (tgt := 17) dX8_has_6 (by decide) rfl (fun c_6 => ?_) (fun c_6 => ?_)
  · refine ce_iconst (v := nI (1)) dX8_has_17 (by decide) ?_
    refine ce_goto (tgt := 38) dX8_has_18 (by decide) ?_
    have ef : f = 1 := hf.symm.trans (show kx_hasG (sK S) x y z = 1 by unfold kx_hasG kx_ran; (try unfold ce_n); (try simp only [Int.toNat_natCast]); (try unfold ce_in at *); (repeat' split) <;> first | rfl | (exfalso; omega))
    refine ce_cVr dX8_has_38 hX8_refused kRX8_115 (m_X8_refused1 d hD) rfl rfl hD.1 rfl (by decide) (Nat.le_of_ble_eq_true rfl) (fun rcg1 cg1 hcg1 => ?_)
    obtain ⟨ecg1, hcg1⟩ := hcg1
    have ecg1 : rcg1 = nI 1 := ecg1
    subst ecg1
    have Mcg1 : ce_rM cg1 d S := by rw [hcg1]; exact rM_ref hr
    have zcg1 : cg1 d 0 = nI 1 := by rw [hcg1]; exact ce_up_at _ _ _ _
    have ycg1 : ce_fr d (d + 11) g cg1 := fun x hx => by rw [hcg1]; exact ce_up_ne _ _ _ (by omega)
    refine ce_if_eqN (tgt := 48) dX8_has_41 (by decide) rfl (by omega) (fun c_41 => ?_) (fun c_41 => ?_)
    · omega
    · refine ce_iconst (v := nI (0)) dX8_has_44 (by decide) ?_
      refine ce_goto (tgt := 60) dX8_has_45 (by decide) ?_
      refine ce_iret dX8_has_60 rfl rfl (by decide) (by decide) ?_
      exact ⟨_, rfl, rfl, by rw [ef]; exact zcg1, Mcg1, ycg1⟩
  · refine ce_aload_n dX8_has_9 rfl ?_
    refine ce_iload_n dX8_has_10 rfl ?_
    refine ce_cVp dX8_has_11 hX8_isWine kRX8_182 (n_isWine d (sK S) (sO S) hD hr.2.1 (y) (by omega)) rfl rfl hD.1 rfl (by decide) (Nat.le_of_ble_eq_true rfl) ?_
    refine ce_if_neB (tgt := 21) dX8_has_14 (by decide) rfl (fun c_14 => ?_) (fun c_14 => ?_)
    · refine ce_iload_n dX8_has_21 rfl ?_
      refine ce_i2l (v := (z).toInt64) dX8_has_22 rfl ?_
      refine ce_lconst (v := 0) dX8_has_23 (by decide) ?_
      refine ce_ldc2 dX8_has_24 kRX8_190 ?_
      refine ce_cSp dX8_has_27 hX8_in kRX8_108 (m_X8_in ((z).toInt64) (0) (2) ((0 : Int) ≤ (z).toInt ∧ (z).toInt ≤ (2 : Int)) (cr_io ((cr_tl (z)).trans rfl) (by decide) (by decide))) rfl rfl (by decide) (Nat.le_of_ble_eq_true rfl) ?_
      refine ce_if_eqB (tgt := 37) dX8_has_30 (by decide) rfl (fun c_30 => ?_) (fun c_30 => ?_)
      · refine ce_iconst (v := nI (2)) dX8_has_37 (by decide) ?_
        have ef : f = 2 := hf.symm.trans (show kx_hasG (sK S) x y z = 2 by unfold kx_hasG kx_ran; (try unfold ce_n); (try simp only [Int.toNat_natCast]); (try unfold ce_in at *); (repeat' split) <;> first | rfl | (exfalso; omega))
        refine ce_cVr dX8_has_38 hX8_refused kRX8_115 (m_X8_refused2 d hD) rfl rfl hD.1 rfl (by decide) (Nat.le_of_ble_eq_true rfl) (fun rcg1 cg1 hcg1 => ?_)
        obtain ⟨ecg1, hcg1⟩ := hcg1
        have ecg1 : rcg1 = nI 1 := ecg1
        subst ecg1
        have Mcg1 : ce_rM cg1 d S := by rw [hcg1]; exact rM_ref hr
        have zcg1 : cg1 d 0 = nI 2 := by rw [hcg1]; exact ce_up_at _ _ _ _
        have ycg1 : ce_fr d (d + 11) g cg1 := fun x hx => by rw [hcg1]; exact ce_up_ne _ _ _ (by omega)
        refine ce_if_eqN (tgt := 48) dX8_has_41 (by decide) rfl (by omega) (fun c_41 => ?_) (fun c_41 => ?_)
        · omega
        · refine ce_iconst (v := nI (0)) dX8_has_44 (by decide) ?_
          refine ce_goto (tgt := 60) dX8_has_45 (by decide) ?_
          refine ce_iret dX8_has_60 rfl rfl (by decide) (by decide) ?_
          exact ⟨_, rfl, rfl, by rw [ef]; exact zcg1, Mcg1, ycg1⟩
      · refine ce_iconst (v := nI (0)) dX8_has_33 (by decide) ?_
        refine ce_goto (tgt := 38) dX8_has_34 (by decide) ?_
        have ef : f = 0 := hf.symm.trans (show kx_hasG (sK S) x y z = 0 by unfold kx_hasG kx_ran; (try unfold ce_n); (try simp only [Int.toNat_natCast]); (try unfold ce_in at *); (repeat' split) <;> first | rfl | (exfalso; omega))
        exact absurd ef h0
    · refine ce_iconst (v := nI (1)) dX8_has_17 (by decide) ?_
      refine ce_goto (tgt := 38) dX8_has_18 (by decide) ?_
      have ef : f = 1 := hf.symm.trans (show kx_hasG (sK S) x y z = 1 by unfold kx_hasG kx_ran; (try unfold ce_n); (try simp only [Int.toNat_natCast]); (try unfold ce_in at *); (repeat' split) <;> first | rfl | (exfalso; omega))
      refine ce_cVr dX8_has_38 hX8_refused kRX8_115 (m_X8_refused1 d hD) rfl rfl hD.1 rfl (by decide) (Nat.le_of_ble_eq_true rfl) (fun rcg1 cg1 hcg1 => ?_)
      obtain ⟨ecg1, hcg1⟩ := hcg1
      have ecg1 : rcg1 = nI 1 := ecg1
      subst ecg1
      have Mcg1 : ce_rM cg1 d S := by rw [hcg1]; exact rM_ref hr
      have zcg1 : cg1 d 0 = nI 1 := by rw [hcg1]; exact ce_up_at _ _ _ _
      have ycg1 : ce_fr d (d + 11) g cg1 := fun x hx => by rw [hcg1]; exact ce_up_ne _ _ _ (by omega)
      refine ce_if_eqN (tgt := 48) dX8_has_41 (by decide) rfl (by omega) (fun c_41 => ?_) (fun c_41 => ?_)
      · omega
      · refine ce_iconst (v := nI (0)) dX8_has_44 (by decide) ?_
        refine ce_goto (tgt := 60) dX8_has_45 (by decide) ?_
        refine ce_iret dX8_has_60 rfl rfl (by decide) (by decide) ?_
        exact ⟨_, rfl, rfl, by rw [ef]; exact zcg1, Mcg1, ycg1⟩
set_option maxHeartbeats 2000000 in
set_option maxRecDepth 20000 in
theorem m_X8_roomFor_no {σ : ce_S} {g : ce_D} (d : Nat) (S : ks_S) (hD : ce_LM σ d) (hr : ce_rM g d S) (ok : ks_ok S) (y : Int32) (f : Nat) (hf : kx_wF (sK S) y = f) (h0 : f ≠ 0) : ce_CT (ce_r 5) mX8_roomFor [.ref (d), .int (y)] σ g (ce_rv σ (fun z9 g1 => g1 d 0 = nI (f) ∧ ce_rM g1 d S ∧ ce_fr d (d + 11) g g1)) ce_no := by
  have hB := ok.1.i7
  have hM := ok.1.me
  have hW := ok.1.wi
  have hst := ok.1.st
  refine ce_enter (by decide) rfl (Nat.le_of_ble_eq_true rfl) (L := [some (.ref (d)), some (.int (y))]) rfl ?_
  refine ce_aload_n dX8_roomFor_0 rfl ?_
  refine ce_aload_n dX8_roomFor_1 rfl ?_
  refine ce_iload_n dX8_roomFor_2 rfl ?_
  refine ce_cVp dX8_roomFor_3 hX8_isWine kRX8_182 (n_isWine d (sK S) (sO S) hD hr.2.1 (y) (by omega)) rfl rfl hD.1 rfl (by decide) (Nat.le_of_ble_eq_true rfl) ?_
  refine ce_if_eqB (tgt := 13) dX8_roomFor_6 (by decide) rfl (fun c_6 => ?_) (fun c_6 => ?_)
  · refine ce_iconst (v := nI (1)) dX8_roomFor_13 (by decide) ?_
    have ef : f = 1 := hf.symm.trans (show kx_wF (sK S) y = 1 by unfold kx_wF; (try unfold ce_n); (try simp only [Int.toNat_natCast]); (try unfold ce_in at *); (repeat' split) <;> first | rfl | (exfalso; omega))
    refine ce_cVr dX8_roomFor_14 hX8_refused kRX8_115 (m_X8_refused1 d hD) rfl rfl hD.1 rfl (by decide) (Nat.le_of_ble_eq_true rfl) (fun rcg1 cg1 hcg1 => ?_)
    obtain ⟨ecg1, hcg1⟩ := hcg1
    have ecg1 : rcg1 = nI 1 := ecg1
    subst ecg1
    have Mcg1 : ce_rM cg1 d S := by rw [hcg1]; exact rM_ref hr
    have zcg1 : cg1 d 0 = nI 1 := by rw [hcg1]; exact ce_up_at _ _ _ _
    have ycg1 : ce_fr d (d + 11) g cg1 := fun x hx => by rw [hcg1]; exact ce_up_ne _ _ _ (by omega)
    refine ce_if_eqN (tgt := 24) dX8_roomFor_17 (by decide) rfl (by omega) (fun c_17 => ?_) (fun c_17 => ?_)
    · omega
    · refine ce_iconst (v := nI (0)) dX8_roomFor_20 (by decide) ?_
      refine ce_goto (tgt := 32) dX8_roomFor_21 (by decide) ?_
      refine ce_iret dX8_roomFor_32 rfl rfl (by decide) (by decide) ?_
      exact ⟨_, rfl, rfl, by rw [ef]; exact zcg1, Mcg1, ycg1⟩
  · refine ce_iconst (v := nI (0)) dX8_roomFor_9 (by decide) ?_
    refine ce_goto (tgt := 14) dX8_roomFor_10 (by decide) ?_
    have ef : f = 0 := hf.symm.trans (show kx_wF (sK S) y = 0 by unfold kx_wF; (try unfold ce_n); (try simp only [Int.toNat_natCast]); (try unfold ce_in at *); (repeat' split) <;> first | rfl | (exfalso; omega))
    exact absurd ef h0
set_option maxHeartbeats 2000000 in
set_option maxRecDepth 20000 in
theorem m_X8_shortest_no {σ : ce_S} {g : ce_D} (d : Nat) (S : ks_S) (hD : ce_LM σ d) (hr : ce_rM g d S) (ok : ks_ok S) (y : Int32) (f : Nat) (hf : kx_wF (sK S) y = f) (h0 : f ≠ 0) : ce_CT (ce_r 5) mX8_shortest [.ref (d), .int (y)] σ g (ce_rv σ (fun z9 g1 => g1 d 0 = nI (f) ∧ ce_rM g1 d S ∧ ce_fr d (d + 11) g g1)) ce_no := by
  have hB := ok.1.i7
  have hM := ok.1.me
  have hW := ok.1.wi
  have hst := ok.1.st
  refine ce_enter (by decide) rfl (Nat.le_of_ble_eq_true rfl) (L := [some (.ref (d)), some (.int (y)), none, none, none, none]) rfl ?_
  refine ce_aload_n dX8_shortest_0 rfl ?_
  refine ce_aload_n dX8_shortest_1 rfl ?_
  refine ce_iload_n dX8_shortest_2 rfl ?_
  refine ce_cVp dX8_shortest_3 hX8_isWine kRX8_182 (n_isWine d (sK S) (sO S) hD hr.2.1 (y) (by omega)) rfl rfl hD.1 rfl (by decide) (Nat.le_of_ble_eq_true rfl) ?_
  refine ce_if_eqB (tgt := 13) dX8_shortest_6 (by decide) rfl (fun c_6 => ?_) (fun c_6 => ?_)
  · refine ce_iconst (v := nI (1)) dX8_shortest_13 (by decide) ?_
    have ef : f = 1 := hf.symm.trans (show kx_wF (sK S) y = 1 by unfold kx_wF; (try unfold ce_n); (try simp only [Int.toNat_natCast]); (try unfold ce_in at *); (repeat' split) <;> first | rfl | (exfalso; omega))
    refine ce_cVr dX8_shortest_14 hX8_refused kRX8_115 (m_X8_refused1 d hD) rfl rfl hD.1 rfl (by decide) (Nat.le_of_ble_eq_true rfl) (fun rcg1 cg1 hcg1 => ?_)
    obtain ⟨ecg1, hcg1⟩ := hcg1
    have ecg1 : rcg1 = nI 1 := ecg1
    subst ecg1
    have Mcg1 : ce_rM cg1 d S := by rw [hcg1]; exact rM_ref hr
    have zcg1 : cg1 d 0 = nI 1 := by rw [hcg1]; exact ce_up_at _ _ _ _
    have ycg1 : ce_fr d (d + 11) g cg1 := fun x hx => by rw [hcg1]; exact ce_up_ne _ _ _ (by omega)
    refine ce_if_eqN (tgt := 22) dX8_shortest_17 (by decide) rfl (by omega) (fun c_17 => ?_) (fun c_17 => ?_)
    · omega
    · refine ce_iconst (v := nI (0)) dX8_shortest_20 (by decide) ?_
      refine ce_iret dX8_shortest_21 rfl rfl (by decide) (by decide) ?_
      exact ⟨_, rfl, rfl, by rw [ef]; exact zcg1, Mcg1, ycg1⟩
  · refine ce_iconst (v := nI (0)) dX8_shortest_9 (by decide) ?_
    refine ce_goto (tgt := 14) dX8_shortest_10 (by decide) ?_
    have ef : f = 0 := hf.symm.trans (show kx_wF (sK S) y = 0 by unfold kx_wF; (try unfold ce_n); (try simp only [Int.toNat_natCast]); (try unfold ce_in at *); (repeat' split) <;> first | rfl | (exfalso; omega))
    exact absurd ef h0
set_option maxHeartbeats 2000000 in
set_option maxRecDepth 20000 in
theorem m_X8_wouldGet_no {σ : ce_S} {g : ce_D} (d : Nat) (S : ks_S) (hD : ce_LM σ d) (hr : ce_rM g d S) (ok : ks_ok S) (x y : Int32) (f : Nat) (hf : kx_bF (sK S) x y = f) (h0 : f ≠ 0) : ce_CT (ce_r 5) mX8_wouldGet [.ref (d), .int (x), .int (y)] σ g (ce_rv σ (fun z9 g1 => g1 d 0 = nI (f) ∧ ce_rM g1 d S ∧ ce_fr d (d + 11) g g1)) ce_no := by
  have hB := ok.1.i7
  have hM := ok.1.me
  have hW := ok.1.wi
  have hst := ok.1.st
  refine ce_enter (by decide) rfl (Nat.le_of_ble_eq_true rfl) (L := [some (.ref (d)), some (.int (x)), some (.int (y))]) rfl ?_
  refine ce_aload_n dX8_wouldGet_0 rfl ?_
  refine ce_aload_n dX8_wouldGet_1 rfl ?_
  refine ce_iload_n dX8_wouldGet_2 rfl ?_
  refine ce_cVp dX8_wouldGet_3 hX8_isMember kRX8_174 (n_isMember d (sK S) (sO S) hD hr.2.1 (x) (by omega)) rfl rfl hD.1 rfl (by decide) (Nat.le_of_ble_eq_true rfl) ?_
  refine ce_if_eqB (tgt := 21) dX8_wouldGet_6 (by decide) rfl (fun c_6 => ?_) (fun c_6 => ?_)
  · refine ce_iconst (v := nI (1)) dX8_wouldGet_21 (by decide) ?_
    have ef : f = 1 := hf.symm.trans (show kx_bF (sK S) x y = 1 by unfold kx_bF; (try unfold ce_n); (try simp only [Int.toNat_natCast]); (try unfold ce_in at *); (repeat' split) <;> first | rfl | (exfalso; omega))
    refine ce_cVr dX8_wouldGet_22 hX8_refused kRX8_115 (m_X8_refused1 d hD) rfl rfl hD.1 rfl (by decide) (Nat.le_of_ble_eq_true rfl) (fun rcg1 cg1 hcg1 => ?_)
    obtain ⟨ecg1, hcg1⟩ := hcg1
    have ecg1 : rcg1 = nI 1 := ecg1
    subst ecg1
    have Mcg1 : ce_rM cg1 d S := by rw [hcg1]; exact rM_ref hr
    have zcg1 : cg1 d 0 = nI 1 := by rw [hcg1]; exact ce_up_at _ _ _ _
    have ycg1 : ce_fr d (d + 11) g cg1 := fun x hx => by rw [hcg1]; exact ce_up_ne _ _ _ (by omega)
    refine ce_if_eqN (tgt := 30) dX8_wouldGet_25 (by decide) rfl (by omega) (fun c_25 => ?_) (fun c_25 => ?_)
    · omega
    · refine ce_iconst (v := nI (0)) dX8_wouldGet_28 (by decide) ?_
      refine ce_iret dX8_wouldGet_29 rfl rfl (by decide) (by decide) ?_
      exact ⟨_, rfl, rfl, by rw [ef]; exact zcg1, Mcg1, ycg1⟩
  · refine ce_aload_n dX8_wouldGet_9 rfl ?_
    refine ce_iload_n dX8_wouldGet_10 rfl ?_
    refine ce_cVp dX8_wouldGet_11 hX8_isWine kRX8_182 (n_isWine d (sK S) (sO S) hD hr.2.1 (y) (by omega)) rfl rfl hD.1 rfl (by decide) (Nat.le_of_ble_eq_true rfl) ?_
    refine ce_if_eqB (tgt := 21) dX8_wouldGet_14 (by decide) rfl (fun c_14 => ?_) (fun c_14 => ?_)
    · refine ce_iconst (v := nI (1)) dX8_wouldGet_21 (by decide) ?_
      have ef : f = 1 := hf.symm.trans (show kx_bF (sK S) x y = 1 by unfold kx_bF; (try unfold ce_n); (try simp only [Int.toNat_natCast]); (try unfold ce_in at *); (repeat' split) <;> first | rfl | (exfalso; omega))
      refine ce_cVr dX8_wouldGet_22 hX8_refused kRX8_115 (m_X8_refused1 d hD) rfl rfl hD.1 rfl (by decide) (Nat.le_of_ble_eq_true rfl) (fun rcg1 cg1 hcg1 => ?_)
      obtain ⟨ecg1, hcg1⟩ := hcg1
      have ecg1 : rcg1 = nI 1 := ecg1
      subst ecg1
      have Mcg1 : ce_rM cg1 d S := by rw [hcg1]; exact rM_ref hr
      have zcg1 : cg1 d 0 = nI 1 := by rw [hcg1]; exact ce_up_at _ _ _ _
      have ycg1 : ce_fr d (d + 11) g cg1 := fun x hx => by rw [hcg1]; exact ce_up_ne _ _ _ (by omega)
      refine ce_if_eqN (tgt := 30) dX8_wouldGet_25 (by decide) rfl (by omega) (fun c_25 => ?_) (fun c_25 => ?_)
      · omega
      · refine ce_iconst (v := nI (0)) dX8_wouldGet_28 (by decide) ?_
        refine ce_iret dX8_wouldGet_29 rfl rfl (by decide) (by decide) ?_
        exact ⟨_, rfl, rfl, by rw [ef]; exact zcg1, Mcg1, ycg1⟩
    · refine ce_iconst (v := nI (0)) dX8_wouldGet_17 (by decide) ?_
      refine ce_goto (tgt := 22) dX8_wouldGet_18 (by decide) ?_
      have ef : f = 0 := hf.symm.trans (show kx_bF (sK S) x y = 0 by unfold kx_bF; (try unfold ce_n); (try simp only [Int.toNat_natCast]); (try unfold ce_in at *); (repeat' split) <;> first | rfl | (exfalso; omega))
      exact absurd ef h0
set_option maxHeartbeats 2000000 in
set_option maxRecDepth 20000 in
theorem m_X8_save_no {σ : ce_S} {g : ce_D} (d : Nat) (S : ks_S) (hD : ce_LM σ d) (hr : ce_rM g d S) (ok : ks_ok S) (x : Int32) (f : Nat) (hf : kx_slF x = f) (h0 : f ≠ 0) : ce_CT (ce_r 5) mX8_save [.ref (d), .int (x)] σ g (ce_rv σ (fun z9 g1 => g1 d 0 = nI (f) ∧ ce_rM g1 d S ∧ ce_fr d (d + 11) g g1)) ce_no := by
  have hB := ok.1.i7
  have hM := ok.1.me
  have hW := ok.1.wi
  have hst := ok.1.st
  refine ce_enter (by decide) rfl (Nat.le_of_ble_eq_true rfl) (L := [some (.ref (d)), some (.int (x))]) rfl ?_
  refine ce_aload_n dX8_save_0 rfl ?_
  refine ce_iload_n dX8_save_1 rfl ?_
  refine ce_i2l (v := (x).toInt64) dX8_save_2 rfl ?_
  refine ce_lconst (v := 0) dX8_save_3 (by decide) ?_
  refine ce_lconst (v := 1) dX8_save_4 (by decide) ?_
  refine ce_cSp dX8_save_5 hX8_in kRX8_108 (m_X8_in ((x).toInt64) (0) (1) ((0 : Int) ≤ (x).toInt ∧ (x).toInt ≤ (1 : Int)) (cr_io ((cr_tl (x)).trans rfl) (by decide) (by decide))) rfl rfl (by decide) (Nat.le_of_ble_eq_true rfl) ?_
  refine ce_if_eqB (tgt := 15) dX8_save_8 (by decide) rfl (fun c_8 => ?_) (fun c_8 => ?_)
  · refine ce_iconst (v := nI (1)) dX8_save_15 (by decide) ?_
    have ef : f = 1 := hf.symm.trans (show kx_slF x = 1 by unfold kx_slF; (try unfold ce_n); (try simp only [Int.toNat_natCast]); (try unfold ce_in at *); (repeat' split) <;> first | rfl | (exfalso; omega))
    refine ce_cVr dX8_save_16 hX8_refused kRX8_115 (m_X8_refused1 d hD) rfl rfl hD.1 rfl (by decide) (Nat.le_of_ble_eq_true rfl) (fun rcg1 cg1 hcg1 => ?_)
    obtain ⟨ecg1, hcg1⟩ := hcg1
    have ecg1 : rcg1 = nI 1 := ecg1
    subst ecg1
    have Mcg1 : ce_rM cg1 d S := by rw [hcg1]; exact rM_ref hr
    have zcg1 : cg1 d 0 = nI 1 := by rw [hcg1]; exact ce_up_at _ _ _ _
    have ycg1 : ce_fr d (d + 11) g cg1 := fun x hx => by rw [hcg1]; exact ce_up_ne _ _ _ (by omega)
    refine ce_if_eqN (tgt := 24) dX8_save_19 (by decide) rfl (by omega) (fun c_19 => ?_) (fun c_19 => ?_)
    · omega
    · refine ce_iconst (v := nI (0)) dX8_save_22 (by decide) ?_
      refine ce_iret dX8_save_23 rfl rfl (by decide) (by decide) ?_
      exact ⟨_, rfl, rfl, by rw [ef]; exact zcg1, Mcg1, ycg1⟩
  · refine ce_iconst (v := nI (0)) dX8_save_11 (by decide) ?_
    refine ce_goto (tgt := 16) dX8_save_12 (by decide) ?_
    have ef : f = 0 := hf.symm.trans (show kx_slF x = 0 by unfold kx_slF; (try unfold ce_n); (try simp only [Int.toNat_natCast]); (try unfold ce_in at *); (repeat' split) <;> first | rfl | (exfalso; omega))
    exact absurd ef h0
set_option maxHeartbeats 2000000 in
set_option maxRecDepth 20000 in
theorem m_X8_about_ok0 {σ : ce_S} {g : ce_D} (d : Nat) (S : ks_S) (hD : ce_LM σ d) (hr : ce_rM g d S) (ok : ks_ok S) (hz : ko_z (sK S) (sO S)) : ce_CT (ce_r 5) mX8_about [.ref (d), .int (nI (0))] σ g (ce_rv σ (fun z9 g1 => z9 = nI (sK S 0 0) ∧ g1 d 0 = nI 0 ∧ ce_rM g1 d S ∧ ce_fr d (d + 11) g g1)) ce_no := by
  have hB := ok.1.i7
  have hM := ok.1.me
  have hW := ok.1.wi
  have hst := ok.1.st
  have q0 : kq (sK S) 0 = sK S 0 := kq_ne (by decide)
  have h00 : kq (sK S) 0 0 ≤ 6 := by rw [q0]; exact hM
  have h01 : kq (sK S) 0 1 ≤ 6 := by rw [q0]; exact hW
  have h02 : kq (sK S) 0 2 ≤ 8 := by rw [q0]; exact hB
  have eqC : ce_sum (kq (sK S) 12) (kq (sK S) 0 2) = ce_sum (sK S 9) 36 := by rw [kq_ne (a := 12) (by decide), q0]; exact kq_cel ok.1
  have eqE : kv_emp (kq (sK S)) (kq (sK S) 0 2) = kv_emp (sK S) (sK S 0 2) := by rw [kq_emp, q0]
  have eqR : ce_sum (fun b => kq (sK S) 11 b - kq (sK S) 12 b) (kq (sK S) 0 2) = ce_sum (fun b => (sK S) 11 b - (sK S) 12 b) (sK S 0 2) := by rw [kq_ne (a := 11) (by decide), kq_ne (a := 12) (by decide), q0]
  refine ce_enter (by decide) rfl (Nat.le_of_ble_eq_true rfl) (L := [some (.ref (d)), some (.int (nI (0)))]) rfl ?_
  refine ce_aload_n dX8_about_0 rfl ?_
  refine ce_iload_n dX8_about_1 rfl ?_
  refine ce_i2l (v := (nI (0)).toInt64) dX8_about_2 rfl ?_
  refine ce_lconst (v := 0) dX8_about_3 (by decide) ?_
  refine ce_ldc2 dX8_about_4 kRX8_126 ?_
  refine ce_cSp dX8_about_7 hX8_in kRX8_108 (m_X8_in ((nI (0)).toInt64) (0) (9) ((0 : Int) ≤ ((0 : Nat) : Int) ∧ ((0 : Nat) : Int) ≤ (9 : Int)) (cr_io ((cr_tl (nI (0))).trans (nI_toInt (by omega))) (by decide) (by decide))) rfl rfl (by decide) (Nat.le_of_ble_eq_true rfl) ?_
  refine ce_if_eqB (tgt := 17) dX8_about_10 (by decide) rfl (fun c_10 => ?_) (fun c_10 => ?_)
  · refine ce_iconst (v := nI (1)) dX8_about_17 (by decide) ?_
    exfalso
    (try unfold ce_in at *)
    omega
  · refine ce_iconst (v := nI (0)) dX8_about_13 (by decide) ?_
    refine ce_goto (tgt := 18) dX8_about_14 (by decide) ?_
    refine ce_cVr dX8_about_18 hX8_refused kRX8_115 (m_X8_refused0 d hD) rfl rfl hD.1 rfl (by decide) (Nat.le_of_ble_eq_true rfl) (fun rcg1 cg1 hcg1 => ?_)
    obtain ⟨ecg1, hcg1⟩ := hcg1
    have ecg1 : rcg1 = nI 0 := ecg1
    subst ecg1
    have Mcg1 : ce_rM cg1 d S := by rw [hcg1]; exact rM_ref hr
    have zcg1 : cg1 d 0 = nI 0 := by rw [hcg1]; exact ce_up_at _ _ _ _
    have ycg1 : ce_fr d (d + 11) g cg1 := fun x hx => by rw [hcg1]; exact ce_up_ne _ _ _ (by omega)
    refine ce_if_eqN (tgt := 26) dX8_about_21 (by decide) rfl (by omega) (fun c_21 => ?_) (fun c_21 => ?_)
    · refine ce_iload_n dX8_about_26 rfl ?_
      refine ce_tableOut (tgt := 127) dX8_about_27 (by decide) (by decide) ?_
      refine ce_aload_n dX8_about_127 rfl ?_
      refine ce_getR dX8_about_128 fRX8_16 hD.1 hD.2.1.2.2.1 ?_
      refine ce_iload_n dX8_about_131 rfl ?_
      refine ce_ialdv dX8_about_132 (hD.2.2.2.2.1).1 rfl (hD.2.2.2.2.1).2 (by omega) (by decide) (((Mcg1.2.1).c0).trans (congrArg nI (by rw [kq_ne (by decide)]))) ?_
      refine ce_iret dX8_about_133 rfl rfl (by decide) (by decide) ?_
      exact ⟨_, rfl, rfl, rfl, zcg1, Mcg1, ycg1⟩
    · omega
set_option maxHeartbeats 2000000 in
set_option maxRecDepth 20000 in
theorem m_X8_about_ok1 {σ : ce_S} {g : ce_D} (d : Nat) (S : ks_S) (hD : ce_LM σ d) (hr : ce_rM g d S) (ok : ks_ok S) (hz : ko_z (sK S) (sO S)) : ce_CT (ce_r 5) mX8_about [.ref (d), .int (nI (1))] σ g (ce_rv σ (fun z9 g1 => z9 = nI (sK S 0 1) ∧ g1 d 0 = nI 0 ∧ ce_rM g1 d S ∧ ce_fr d (d + 11) g g1)) ce_no := by
  have hB := ok.1.i7
  have hM := ok.1.me
  have hW := ok.1.wi
  have hst := ok.1.st
  have q0 : kq (sK S) 0 = sK S 0 := kq_ne (by decide)
  have h00 : kq (sK S) 0 0 ≤ 6 := by rw [q0]; exact hM
  have h01 : kq (sK S) 0 1 ≤ 6 := by rw [q0]; exact hW
  have h02 : kq (sK S) 0 2 ≤ 8 := by rw [q0]; exact hB
  have eqC : ce_sum (kq (sK S) 12) (kq (sK S) 0 2) = ce_sum (sK S 9) 36 := by rw [kq_ne (a := 12) (by decide), q0]; exact kq_cel ok.1
  have eqE : kv_emp (kq (sK S)) (kq (sK S) 0 2) = kv_emp (sK S) (sK S 0 2) := by rw [kq_emp, q0]
  have eqR : ce_sum (fun b => kq (sK S) 11 b - kq (sK S) 12 b) (kq (sK S) 0 2) = ce_sum (fun b => (sK S) 11 b - (sK S) 12 b) (sK S 0 2) := by rw [kq_ne (a := 11) (by decide), kq_ne (a := 12) (by decide), q0]
  refine ce_enter (by decide) rfl (Nat.le_of_ble_eq_true rfl) (L := [some (.ref (d)), some (.int (nI (1)))]) rfl ?_
  refine ce_aload_n dX8_about_0 rfl ?_
  refine ce_iload_n dX8_about_1 rfl ?_
  refine ce_i2l (v := (nI (1)).toInt64) dX8_about_2 rfl ?_
  refine ce_lconst (v := 0) dX8_about_3 (by decide) ?_
  refine ce_ldc2 dX8_about_4 kRX8_126 ?_
  refine ce_cSp dX8_about_7 hX8_in kRX8_108 (m_X8_in ((nI (1)).toInt64) (0) (9) ((0 : Int) ≤ ((1 : Nat) : Int) ∧ ((1 : Nat) : Int) ≤ (9 : Int)) (cr_io ((cr_tl (nI (1))).trans (nI_toInt (by omega))) (by decide) (by decide))) rfl rfl (by decide) (Nat.le_of_ble_eq_true rfl) ?_
  refine ce_if_eqB (tgt := 17) dX8_about_10 (by decide) rfl (fun c_10 => ?_) (fun c_10 => ?_)
  · refine ce_iconst (v := nI (1)) dX8_about_17 (by decide) ?_
    exfalso
    (try unfold ce_in at *)
    omega
  · refine ce_iconst (v := nI (0)) dX8_about_13 (by decide) ?_
    refine ce_goto (tgt := 18) dX8_about_14 (by decide) ?_
    refine ce_cVr dX8_about_18 hX8_refused kRX8_115 (m_X8_refused0 d hD) rfl rfl hD.1 rfl (by decide) (Nat.le_of_ble_eq_true rfl) (fun rcg1 cg1 hcg1 => ?_)
    obtain ⟨ecg1, hcg1⟩ := hcg1
    have ecg1 : rcg1 = nI 0 := ecg1
    subst ecg1
    have Mcg1 : ce_rM cg1 d S := by rw [hcg1]; exact rM_ref hr
    have zcg1 : cg1 d 0 = nI 0 := by rw [hcg1]; exact ce_up_at _ _ _ _
    have ycg1 : ce_fr d (d + 11) g cg1 := fun x hx => by rw [hcg1]; exact ce_up_ne _ _ _ (by omega)
    refine ce_if_eqN (tgt := 26) dX8_about_21 (by decide) rfl (by omega) (fun c_21 => ?_) (fun c_21 => ?_)
    · refine ce_iload_n dX8_about_26 rfl ?_
      refine ce_tableOut (tgt := 127) dX8_about_27 (by decide) (by decide) ?_
      refine ce_aload_n dX8_about_127 rfl ?_
      refine ce_getR dX8_about_128 fRX8_16 hD.1 hD.2.1.2.2.1 ?_
      refine ce_iload_n dX8_about_131 rfl ?_
      refine ce_ialdv dX8_about_132 (hD.2.2.2.2.1).1 rfl (hD.2.2.2.2.1).2 (by omega) (by decide) (((Mcg1.2.1).c1).trans (congrArg nI (by rw [kq_ne (by decide)]))) ?_
      refine ce_iret dX8_about_133 rfl rfl (by decide) (by decide) ?_
      exact ⟨_, rfl, rfl, rfl, zcg1, Mcg1, ycg1⟩
    · omega
set_option maxHeartbeats 2000000 in
set_option maxRecDepth 20000 in
theorem m_X8_about_ok2 {σ : ce_S} {g : ce_D} (d : Nat) (S : ks_S) (hD : ce_LM σ d) (hr : ce_rM g d S) (ok : ks_ok S) (hz : ko_z (sK S) (sO S)) : ce_CT (ce_r 5) mX8_about [.ref (d), .int (nI (2))] σ g (ce_rv σ (fun z9 g1 => z9 = nI (sK S 0 2) ∧ g1 d 0 = nI 0 ∧ ce_rM g1 d S ∧ ce_fr d (d + 11) g g1)) ce_no := by
  have hB := ok.1.i7
  have hM := ok.1.me
  have hW := ok.1.wi
  have hst := ok.1.st
  have q0 : kq (sK S) 0 = sK S 0 := kq_ne (by decide)
  have h00 : kq (sK S) 0 0 ≤ 6 := by rw [q0]; exact hM
  have h01 : kq (sK S) 0 1 ≤ 6 := by rw [q0]; exact hW
  have h02 : kq (sK S) 0 2 ≤ 8 := by rw [q0]; exact hB
  have eqC : ce_sum (kq (sK S) 12) (kq (sK S) 0 2) = ce_sum (sK S 9) 36 := by rw [kq_ne (a := 12) (by decide), q0]; exact kq_cel ok.1
  have eqE : kv_emp (kq (sK S)) (kq (sK S) 0 2) = kv_emp (sK S) (sK S 0 2) := by rw [kq_emp, q0]
  have eqR : ce_sum (fun b => kq (sK S) 11 b - kq (sK S) 12 b) (kq (sK S) 0 2) = ce_sum (fun b => (sK S) 11 b - (sK S) 12 b) (sK S 0 2) := by rw [kq_ne (a := 11) (by decide), kq_ne (a := 12) (by decide), q0]
  refine ce_enter (by decide) rfl (Nat.le_of_ble_eq_true rfl) (L := [some (.ref (d)), some (.int (nI (2)))]) rfl ?_
  refine ce_aload_n dX8_about_0 rfl ?_
  refine ce_iload_n dX8_about_1 rfl ?_
  refine ce_i2l (v := (nI (2)).toInt64) dX8_about_2 rfl ?_
  refine ce_lconst (v := 0) dX8_about_3 (by decide) ?_
  refine ce_ldc2 dX8_about_4 kRX8_126 ?_
  refine ce_cSp dX8_about_7 hX8_in kRX8_108 (m_X8_in ((nI (2)).toInt64) (0) (9) ((0 : Int) ≤ ((2 : Nat) : Int) ∧ ((2 : Nat) : Int) ≤ (9 : Int)) (cr_io ((cr_tl (nI (2))).trans (nI_toInt (by omega))) (by decide) (by decide))) rfl rfl (by decide) (Nat.le_of_ble_eq_true rfl) ?_
  refine ce_if_eqB (tgt := 17) dX8_about_10 (by decide) rfl (fun c_10 => ?_) (fun c_10 => ?_)
  · refine ce_iconst (v := nI (1)) dX8_about_17 (by decide) ?_
    exfalso
    (try unfold ce_in at *)
    omega
  · refine ce_iconst (v := nI (0)) dX8_about_13 (by decide) ?_
    refine ce_goto (tgt := 18) dX8_about_14 (by decide) ?_
    refine ce_cVr dX8_about_18 hX8_refused kRX8_115 (m_X8_refused0 d hD) rfl rfl hD.1 rfl (by decide) (Nat.le_of_ble_eq_true rfl) (fun rcg1 cg1 hcg1 => ?_)
    obtain ⟨ecg1, hcg1⟩ := hcg1
    have ecg1 : rcg1 = nI 0 := ecg1
    subst ecg1
    have Mcg1 : ce_rM cg1 d S := by rw [hcg1]; exact rM_ref hr
    have zcg1 : cg1 d 0 = nI 0 := by rw [hcg1]; exact ce_up_at _ _ _ _
    have ycg1 : ce_fr d (d + 11) g cg1 := fun x hx => by rw [hcg1]; exact ce_up_ne _ _ _ (by omega)
    refine ce_if_eqN (tgt := 26) dX8_about_21 (by decide) rfl (by omega) (fun c_21 => ?_) (fun c_21 => ?_)
    · refine ce_iload_n dX8_about_26 rfl ?_
      refine ce_tableOut (tgt := 127) dX8_about_27 (by decide) (by decide) ?_
      refine ce_aload_n dX8_about_127 rfl ?_
      refine ce_getR dX8_about_128 fRX8_16 hD.1 hD.2.1.2.2.1 ?_
      refine ce_iload_n dX8_about_131 rfl ?_
      refine ce_ialdv dX8_about_132 (hD.2.2.2.2.1).1 rfl (hD.2.2.2.2.1).2 (by omega) (by decide) (((Mcg1.2.1).c2).trans (congrArg nI (by rw [kq_ne (by decide)]))) ?_
      refine ce_iret dX8_about_133 rfl rfl (by decide) (by decide) ?_
      exact ⟨_, rfl, rfl, rfl, zcg1, Mcg1, ycg1⟩
    · omega
set_option maxHeartbeats 2000000 in
set_option maxRecDepth 20000 in
theorem m_X8_about_ok3 {σ : ce_S} {g : ce_D} (d : Nat) (S : ks_S) (hD : ce_LM σ d) (hr : ce_rM g d S) (ok : ks_ok S) (hz : ko_z (sK S) (sO S)) : ce_CT (ce_r 5) mX8_about [.ref (d), .int (nI (3))] σ g (ce_rv σ (fun z9 g1 => z9 = nI (ce_sum (sK S 9) 36) ∧ g1 d 0 = nI 0 ∧ ce_rM g1 d S ∧ ce_fr d (d + 11) g g1)) ce_no := by
  have hB := ok.1.i7
  have hM := ok.1.me
  have hW := ok.1.wi
  have hst := ok.1.st
  have q0 : kq (sK S) 0 = sK S 0 := kq_ne (by decide)
  have h00 : kq (sK S) 0 0 ≤ 6 := by rw [q0]; exact hM
  have h01 : kq (sK S) 0 1 ≤ 6 := by rw [q0]; exact hW
  have h02 : kq (sK S) 0 2 ≤ 8 := by rw [q0]; exact hB
  have eqC : ce_sum (kq (sK S) 12) (kq (sK S) 0 2) = ce_sum (sK S 9) 36 := by rw [kq_ne (a := 12) (by decide), q0]; exact kq_cel ok.1
  have eqE : kv_emp (kq (sK S)) (kq (sK S) 0 2) = kv_emp (sK S) (sK S 0 2) := by rw [kq_emp, q0]
  have eqR : ce_sum (fun b => kq (sK S) 11 b - kq (sK S) 12 b) (kq (sK S) 0 2) = ce_sum (fun b => (sK S) 11 b - (sK S) 12 b) (sK S 0 2) := by rw [kq_ne (a := 11) (by decide), kq_ne (a := 12) (by decide), q0]
  refine ce_enter (by decide) rfl (Nat.le_of_ble_eq_true rfl) (L := [some (.ref (d)), some (.int (nI (3)))]) rfl ?_
  refine ce_aload_n dX8_about_0 rfl ?_
  refine ce_iload_n dX8_about_1 rfl ?_
  refine ce_i2l (v := (nI (3)).toInt64) dX8_about_2 rfl ?_
  refine ce_lconst (v := 0) dX8_about_3 (by decide) ?_
  refine ce_ldc2 dX8_about_4 kRX8_126 ?_
  refine ce_cSp dX8_about_7 hX8_in kRX8_108 (m_X8_in ((nI (3)).toInt64) (0) (9) ((0 : Int) ≤ ((3 : Nat) : Int) ∧ ((3 : Nat) : Int) ≤ (9 : Int)) (cr_io ((cr_tl (nI (3))).trans (nI_toInt (by omega))) (by decide) (by decide))) rfl rfl (by decide) (Nat.le_of_ble_eq_true rfl) ?_
  refine ce_if_eqB (tgt := 17) dX8_about_10 (by decide) rfl (fun c_10 => ?_) (fun c_10 => ?_)
  · refine ce_iconst (v := nI (1)) dX8_about_17 (by decide) ?_
    exfalso
    (try unfold ce_in at *)
    omega
  · refine ce_iconst (v := nI (0)) dX8_about_13 (by decide) ?_
    refine ce_goto (tgt := 18) dX8_about_14 (by decide) ?_
    refine ce_cVr dX8_about_18 hX8_refused kRX8_115 (m_X8_refused0 d hD) rfl rfl hD.1 rfl (by decide) (Nat.le_of_ble_eq_true rfl) (fun rcg1 cg1 hcg1 => ?_)
    obtain ⟨ecg1, hcg1⟩ := hcg1
    have ecg1 : rcg1 = nI 0 := ecg1
    subst ecg1
    have Mcg1 : ce_rM cg1 d S := by rw [hcg1]; exact rM_ref hr
    have zcg1 : cg1 d 0 = nI 0 := by rw [hcg1]; exact ce_up_at _ _ _ _
    have ycg1 : ce_fr d (d + 11) g cg1 := fun x hx => by rw [hcg1]; exact ce_up_ne _ _ _ (by omega)
    refine ce_if_eqN (tgt := 26) dX8_about_21 (by decide) rfl (by omega) (fun c_21 => ?_) (fun c_21 => ?_)
    · refine ce_iload_n dX8_about_26 rfl ?_
      refine ce_tableIn (off := 41) (tgt := 68) dX8_about_27 (by decide) (by decide) (by decide) (by decide) ?_
      refine ce_aload_n dX8_about_68 rfl ?_
      refine ce_getR dX8_about_69 fRX8_16 hD.1 hD.2.1.2.2.1 ?_
      refine ce_cSp dX8_about_72 hX8_cellar kRX8_158 (eqC ▸ m_X8_cellar (d + 3) (kq (sK S)) (sO S) ⟨(hD.2.2.2.2.1).1, (hD.2.2.2.2.1).2⟩ Mcg1.2.1 h02) rfl rfl (by decide) (Nat.le_of_ble_eq_true rfl) ?_
      refine ce_iret dX8_about_75 rfl rfl (by decide) (by decide) ?_
      exact ⟨_, rfl, rfl, rfl, zcg1, Mcg1, ycg1⟩
    · omega
set_option maxHeartbeats 2000000 in
set_option maxRecDepth 20000 in
theorem m_X8_about_ok4 {σ : ce_S} {g : ce_D} (d : Nat) (S : ks_S) (hD : ce_LM σ d) (hr : ce_rM g d S) (ok : ks_ok S) (hz : ko_z (sK S) (sO S)) : ce_CT (ce_r 5) mX8_about [.ref (d), .int (nI (4))] σ g (ce_rv σ (fun z9 g1 => z9 = nI (ce_sum (sK S 10) 36) ∧ g1 d 0 = nI 0 ∧ ce_rM g1 d S ∧ ce_fr d (d + 11) g g1)) ce_no := by
  have hB := ok.1.i7
  have hM := ok.1.me
  have hW := ok.1.wi
  have hst := ok.1.st
  have q0 : kq (sK S) 0 = sK S 0 := kq_ne (by decide)
  have h00 : kq (sK S) 0 0 ≤ 6 := by rw [q0]; exact hM
  have h01 : kq (sK S) 0 1 ≤ 6 := by rw [q0]; exact hW
  have h02 : kq (sK S) 0 2 ≤ 8 := by rw [q0]; exact hB
  have eqC : ce_sum (kq (sK S) 12) (kq (sK S) 0 2) = ce_sum (sK S 9) 36 := by rw [kq_ne (a := 12) (by decide), q0]; exact kq_cel ok.1
  have eqE : kv_emp (kq (sK S)) (kq (sK S) 0 2) = kv_emp (sK S) (sK S 0 2) := by rw [kq_emp, q0]
  have eqR : ce_sum (fun b => kq (sK S) 11 b - kq (sK S) 12 b) (kq (sK S) 0 2) = ce_sum (fun b => (sK S) 11 b - (sK S) 12 b) (sK S 0 2) := by rw [kq_ne (a := 11) (by decide), kq_ne (a := 12) (by decide), q0]
  refine ce_enter (by decide) rfl (Nat.le_of_ble_eq_true rfl) (L := [some (.ref (d)), some (.int (nI (4)))]) rfl ?_
  refine ce_aload_n dX8_about_0 rfl ?_
  refine ce_iload_n dX8_about_1 rfl ?_
  refine ce_i2l (v := (nI (4)).toInt64) dX8_about_2 rfl ?_
  refine ce_lconst (v := 0) dX8_about_3 (by decide) ?_
  refine ce_ldc2 dX8_about_4 kRX8_126 ?_
  refine ce_cSp dX8_about_7 hX8_in kRX8_108 (m_X8_in ((nI (4)).toInt64) (0) (9) ((0 : Int) ≤ ((4 : Nat) : Int) ∧ ((4 : Nat) : Int) ≤ (9 : Int)) (cr_io ((cr_tl (nI (4))).trans (nI_toInt (by omega))) (by decide) (by decide))) rfl rfl (by decide) (Nat.le_of_ble_eq_true rfl) ?_
  refine ce_if_eqB (tgt := 17) dX8_about_10 (by decide) rfl (fun c_10 => ?_) (fun c_10 => ?_)
  · refine ce_iconst (v := nI (1)) dX8_about_17 (by decide) ?_
    exfalso
    (try unfold ce_in at *)
    omega
  · refine ce_iconst (v := nI (0)) dX8_about_13 (by decide) ?_
    refine ce_goto (tgt := 18) dX8_about_14 (by decide) ?_
    refine ce_cVr dX8_about_18 hX8_refused kRX8_115 (m_X8_refused0 d hD) rfl rfl hD.1 rfl (by decide) (Nat.le_of_ble_eq_true rfl) (fun rcg1 cg1 hcg1 => ?_)
    obtain ⟨ecg1, hcg1⟩ := hcg1
    have ecg1 : rcg1 = nI 0 := ecg1
    subst ecg1
    have Mcg1 : ce_rM cg1 d S := by rw [hcg1]; exact rM_ref hr
    have zcg1 : cg1 d 0 = nI 0 := by rw [hcg1]; exact ce_up_at _ _ _ _
    have ycg1 : ce_fr d (d + 11) g cg1 := fun x hx => by rw [hcg1]; exact ce_up_ne _ _ _ (by omega)
    refine ce_if_eqN (tgt := 26) dX8_about_21 (by decide) rfl (by omega) (fun c_21 => ?_) (fun c_21 => ?_)
    · refine ce_iload_n dX8_about_26 rfl ?_
      refine ce_tableIn (off := 49) (tgt := 76) dX8_about_27 (by decide) (by decide) (by decide) (by decide) ?_
      refine ce_aload_n dX8_about_76 rfl ?_
      refine ce_getR dX8_about_77 fRX8_16 hD.1 hD.2.1.2.2.1 ?_
      refine ce_iconst (v := nI (4)) dX8_about_80 (by decide) ?_
      refine ce_cSp dX8_about_81 hX8_ofWine kRX8_162 ((show ce_sum (kq (sK S) 15) (kq (sK S) 0 1) = ce_sum (sK S 10) 36 by rw [q0]; exact kq_w10 ok.1) ▸ m_X8_ofWine4 (d + 3) (kq (sK S)) (sO S) ⟨(hD.2.2.2.2.1).1, (hD.2.2.2.2.1).2⟩ Mcg1.2.1 h01) rfl rfl (by decide) (Nat.le_of_ble_eq_true rfl) ?_
      refine ce_iret dX8_about_84 rfl rfl (by decide) (by decide) ?_
      exact ⟨_, rfl, rfl, rfl, zcg1, Mcg1, ycg1⟩
    · omega
set_option maxHeartbeats 2000000 in
set_option maxRecDepth 20000 in
theorem m_X8_about_ok5 {σ : ce_S} {g : ce_D} (d : Nat) (S : ks_S) (hD : ce_LM σ d) (hr : ce_rM g d S) (ok : ks_ok S) (hz : ko_z (sK S) (sO S)) : ce_CT (ce_r 5) mX8_about [.ref (d), .int (nI (5))] σ g (ce_rv σ (fun z9 g1 => z9 = nI (ce_sum (sK S 6) 6) ∧ g1 d 0 = nI 0 ∧ ce_rM g1 d S ∧ ce_fr d (d + 11) g g1)) ce_no := by
  have hB := ok.1.i7
  have hM := ok.1.me
  have hW := ok.1.wi
  have hst := ok.1.st
  have q0 : kq (sK S) 0 = sK S 0 := kq_ne (by decide)
  have h00 : kq (sK S) 0 0 ≤ 6 := by rw [q0]; exact hM
  have h01 : kq (sK S) 0 1 ≤ 6 := by rw [q0]; exact hW
  have h02 : kq (sK S) 0 2 ≤ 8 := by rw [q0]; exact hB
  have eqC : ce_sum (kq (sK S) 12) (kq (sK S) 0 2) = ce_sum (sK S 9) 36 := by rw [kq_ne (a := 12) (by decide), q0]; exact kq_cel ok.1
  have eqE : kv_emp (kq (sK S)) (kq (sK S) 0 2) = kv_emp (sK S) (sK S 0 2) := by rw [kq_emp, q0]
  have eqR : ce_sum (fun b => kq (sK S) 11 b - kq (sK S) 12 b) (kq (sK S) 0 2) = ce_sum (fun b => (sK S) 11 b - (sK S) 12 b) (sK S 0 2) := by rw [kq_ne (a := 11) (by decide), kq_ne (a := 12) (by decide), q0]
  refine ce_enter (by decide) rfl (Nat.le_of_ble_eq_true rfl) (L := [some (.ref (d)), some (.int (nI (5)))]) rfl ?_
  refine ce_aload_n dX8_about_0 rfl ?_
  refine ce_iload_n dX8_about_1 rfl ?_
  refine ce_i2l (v := (nI (5)).toInt64) dX8_about_2 rfl ?_
  refine ce_lconst (v := 0) dX8_about_3 (by decide) ?_
  refine ce_ldc2 dX8_about_4 kRX8_126 ?_
  refine ce_cSp dX8_about_7 hX8_in kRX8_108 (m_X8_in ((nI (5)).toInt64) (0) (9) ((0 : Int) ≤ ((5 : Nat) : Int) ∧ ((5 : Nat) : Int) ≤ (9 : Int)) (cr_io ((cr_tl (nI (5))).trans (nI_toInt (by omega))) (by decide) (by decide))) rfl rfl (by decide) (Nat.le_of_ble_eq_true rfl) ?_
  refine ce_if_eqB (tgt := 17) dX8_about_10 (by decide) rfl (fun c_10 => ?_) (fun c_10 => ?_)
  · refine ce_iconst (v := nI (1)) dX8_about_17 (by decide) ?_
    exfalso
    (try unfold ce_in at *)
    omega
  · refine ce_iconst (v := nI (0)) dX8_about_13 (by decide) ?_
    refine ce_goto (tgt := 18) dX8_about_14 (by decide) ?_
    refine ce_cVr dX8_about_18 hX8_refused kRX8_115 (m_X8_refused0 d hD) rfl rfl hD.1 rfl (by decide) (Nat.le_of_ble_eq_true rfl) (fun rcg1 cg1 hcg1 => ?_)
    obtain ⟨ecg1, hcg1⟩ := hcg1
    have ecg1 : rcg1 = nI 0 := ecg1
    subst ecg1
    have Mcg1 : ce_rM cg1 d S := by rw [hcg1]; exact rM_ref hr
    have zcg1 : cg1 d 0 = nI 0 := by rw [hcg1]; exact ce_up_at _ _ _ _
    have ycg1 : ce_fr d (d + 11) g cg1 := fun x hx => by rw [hcg1]; exact ce_up_ne _ _ _ (by omega)
    refine ce_if_eqN (tgt := 26) dX8_about_21 (by decide) rfl (by omega) (fun c_21 => ?_) (fun c_21 => ?_)
    · refine ce_iload_n dX8_about_26 rfl ?_
      refine ce_tableIn (off := 58) (tgt := 85) dX8_about_27 (by decide) (by decide) (by decide) (by decide) ?_
      refine ce_aload_n dX8_about_85 rfl ?_
      refine ce_getR dX8_about_86 fRX8_16 hD.1 hD.2.1.2.2.1 ?_
      refine ce_iconst (v := nI (5)) dX8_about_89 (by decide) ?_
      refine ce_cSp dX8_about_90 hX8_ofWine kRX8_162 ((show ce_sum (kq (sK S) 6) (kq (sK S) 0 1) = ce_sum (sK S 6) 6 by rw [q0, kq_ne (a := 6) (by decide)]; exact kq_w6 ok.1) ▸ m_X8_ofWine5 (d + 3) (kq (sK S)) (sO S) ⟨(hD.2.2.2.2.1).1, (hD.2.2.2.2.1).2⟩ Mcg1.2.1 h01) rfl rfl (by decide) (Nat.le_of_ble_eq_true rfl) ?_
      refine ce_iret dX8_about_93 rfl rfl (by decide) (by decide) ?_
      exact ⟨_, rfl, rfl, rfl, zcg1, Mcg1, ycg1⟩
    · omega
set_option maxHeartbeats 2000000 in
set_option maxRecDepth 20000 in
theorem m_X8_about_ok6 {σ : ce_S} {g : ce_D} (d : Nat) (S : ks_S) (hD : ce_LM σ d) (hr : ce_rM g d S) (ok : ks_ok S) (hz : ko_z (sK S) (sO S)) : ce_CT (ce_r 5) mX8_about [.ref (d), .int (nI (6))] σ g (ce_rv σ (fun z9 g1 => z9 = nI (ce_sum (sK S 4) 6) ∧ g1 d 0 = nI 0 ∧ ce_rM g1 d S ∧ ce_fr d (d + 11) g g1)) ce_no := by
  have hB := ok.1.i7
  have hM := ok.1.me
  have hW := ok.1.wi
  have hst := ok.1.st
  have q0 : kq (sK S) 0 = sK S 0 := kq_ne (by decide)
  have h00 : kq (sK S) 0 0 ≤ 6 := by rw [q0]; exact hM
  have h01 : kq (sK S) 0 1 ≤ 6 := by rw [q0]; exact hW
  have h02 : kq (sK S) 0 2 ≤ 8 := by rw [q0]; exact hB
  have eqC : ce_sum (kq (sK S) 12) (kq (sK S) 0 2) = ce_sum (sK S 9) 36 := by rw [kq_ne (a := 12) (by decide), q0]; exact kq_cel ok.1
  have eqE : kv_emp (kq (sK S)) (kq (sK S) 0 2) = kv_emp (sK S) (sK S 0 2) := by rw [kq_emp, q0]
  have eqR : ce_sum (fun b => kq (sK S) 11 b - kq (sK S) 12 b) (kq (sK S) 0 2) = ce_sum (fun b => (sK S) 11 b - (sK S) 12 b) (sK S 0 2) := by rw [kq_ne (a := 11) (by decide), kq_ne (a := 12) (by decide), q0]
  refine ce_enter (by decide) rfl (Nat.le_of_ble_eq_true rfl) (L := [some (.ref (d)), some (.int (nI (6)))]) rfl ?_
  refine ce_aload_n dX8_about_0 rfl ?_
  refine ce_iload_n dX8_about_1 rfl ?_
  refine ce_i2l (v := (nI (6)).toInt64) dX8_about_2 rfl ?_
  refine ce_lconst (v := 0) dX8_about_3 (by decide) ?_
  refine ce_ldc2 dX8_about_4 kRX8_126 ?_
  refine ce_cSp dX8_about_7 hX8_in kRX8_108 (m_X8_in ((nI (6)).toInt64) (0) (9) ((0 : Int) ≤ ((6 : Nat) : Int) ∧ ((6 : Nat) : Int) ≤ (9 : Int)) (cr_io ((cr_tl (nI (6))).trans (nI_toInt (by omega))) (by decide) (by decide))) rfl rfl (by decide) (Nat.le_of_ble_eq_true rfl) ?_
  refine ce_if_eqB (tgt := 17) dX8_about_10 (by decide) rfl (fun c_10 => ?_) (fun c_10 => ?_)
  · refine ce_iconst (v := nI (1)) dX8_about_17 (by decide) ?_
    exfalso
    (try unfold ce_in at *)
    omega
  · refine ce_iconst (v := nI (0)) dX8_about_13 (by decide) ?_
    refine ce_goto (tgt := 18) dX8_about_14 (by decide) ?_
    refine ce_cVr dX8_about_18 hX8_refused kRX8_115 (m_X8_refused0 d hD) rfl rfl hD.1 rfl (by decide) (Nat.le_of_ble_eq_true rfl) (fun rcg1 cg1 hcg1 => ?_)
    obtain ⟨ecg1, hcg1⟩ := hcg1
    have ecg1 : rcg1 = nI 0 := ecg1
    subst ecg1
    have Mcg1 : ce_rM cg1 d S := by rw [hcg1]; exact rM_ref hr
    have zcg1 : cg1 d 0 = nI 0 := by rw [hcg1]; exact ce_up_at _ _ _ _
    have ycg1 : ce_fr d (d + 11) g cg1 := fun x hx => by rw [hcg1]; exact ce_up_ne _ _ _ (by omega)
    refine ce_if_eqN (tgt := 26) dX8_about_21 (by decide) rfl (by omega) (fun c_21 => ?_) (fun c_21 => ?_)
    · refine ce_iload_n dX8_about_26 rfl ?_
      refine ce_tableIn (off := 67) (tgt := 94) dX8_about_27 (by decide) (by decide) (by decide) (by decide) ?_
      refine ce_aload_n dX8_about_94 rfl ?_
      refine ce_getR dX8_about_95 fRX8_16 hD.1 hD.2.1.2.2.1 ?_
      refine ce_iconst (v := nI (2)) dX8_about_98 (by decide) ?_
      refine ce_cSp dX8_about_99 hX8_ofWine kRX8_162 ((show ce_sum (kq (sK S) 4) (kq (sK S) 0 1) = ce_sum (sK S 4) 6 by rw [q0, kq_ne (a := 4) (by decide)]; exact kq_w4 ok.1) ▸ m_X8_ofWine2 (d + 3) (kq (sK S)) (sO S) ⟨(hD.2.2.2.2.1).1, (hD.2.2.2.2.1).2⟩ Mcg1.2.1 h01) rfl rfl (by decide) (Nat.le_of_ble_eq_true rfl) ?_
      refine ce_iret dX8_about_102 rfl rfl (by decide) (by decide) ?_
      exact ⟨_, rfl, rfl, rfl, zcg1, Mcg1, ycg1⟩
    · omega
set_option maxHeartbeats 2000000 in
set_option maxRecDepth 20000 in
theorem m_X8_about_ok7 {σ : ce_S} {g : ce_D} (d : Nat) (S : ks_S) (hD : ce_LM σ d) (hr : ce_rM g d S) (ok : ks_ok S) (hz : ko_z (sK S) (sO S)) : ce_CT (ce_r 5) mX8_about [.ref (d), .int (nI (7))] σ g (ce_rv σ (fun z9 g1 => z9 = ce_isum (sO S) 6 ∧ g1 d 0 = nI 0 ∧ ce_rM g1 d S ∧ ce_fr d (d + 11) g g1)) ce_no := by
  have hB := ok.1.i7
  have hM := ok.1.me
  have hW := ok.1.wi
  have hst := ok.1.st
  have q0 : kq (sK S) 0 = sK S 0 := kq_ne (by decide)
  have h00 : kq (sK S) 0 0 ≤ 6 := by rw [q0]; exact hM
  have h01 : kq (sK S) 0 1 ≤ 6 := by rw [q0]; exact hW
  have h02 : kq (sK S) 0 2 ≤ 8 := by rw [q0]; exact hB
  have eqC : ce_sum (kq (sK S) 12) (kq (sK S) 0 2) = ce_sum (sK S 9) 36 := by rw [kq_ne (a := 12) (by decide), q0]; exact kq_cel ok.1
  have eqE : kv_emp (kq (sK S)) (kq (sK S) 0 2) = kv_emp (sK S) (sK S 0 2) := by rw [kq_emp, q0]
  have eqR : ce_sum (fun b => kq (sK S) 11 b - kq (sK S) 12 b) (kq (sK S) 0 2) = ce_sum (fun b => (sK S) 11 b - (sK S) 12 b) (sK S 0 2) := by rw [kq_ne (a := 11) (by decide), kq_ne (a := 12) (by decide), q0]
  refine ce_enter (by decide) rfl (Nat.le_of_ble_eq_true rfl) (L := [some (.ref (d)), some (.int (nI (7)))]) rfl ?_
  refine ce_aload_n dX8_about_0 rfl ?_
  refine ce_iload_n dX8_about_1 rfl ?_
  refine ce_i2l (v := (nI (7)).toInt64) dX8_about_2 rfl ?_
  refine ce_lconst (v := 0) dX8_about_3 (by decide) ?_
  refine ce_ldc2 dX8_about_4 kRX8_126 ?_
  refine ce_cSp dX8_about_7 hX8_in kRX8_108 (m_X8_in ((nI (7)).toInt64) (0) (9) ((0 : Int) ≤ ((7 : Nat) : Int) ∧ ((7 : Nat) : Int) ≤ (9 : Int)) (cr_io ((cr_tl (nI (7))).trans (nI_toInt (by omega))) (by decide) (by decide))) rfl rfl (by decide) (Nat.le_of_ble_eq_true rfl) ?_
  refine ce_if_eqB (tgt := 17) dX8_about_10 (by decide) rfl (fun c_10 => ?_) (fun c_10 => ?_)
  · refine ce_iconst (v := nI (1)) dX8_about_17 (by decide) ?_
    exfalso
    (try unfold ce_in at *)
    omega
  · refine ce_iconst (v := nI (0)) dX8_about_13 (by decide) ?_
    refine ce_goto (tgt := 18) dX8_about_14 (by decide) ?_
    refine ce_cVr dX8_about_18 hX8_refused kRX8_115 (m_X8_refused0 d hD) rfl rfl hD.1 rfl (by decide) (Nat.le_of_ble_eq_true rfl) (fun rcg1 cg1 hcg1 => ?_)
    obtain ⟨ecg1, hcg1⟩ := hcg1
    have ecg1 : rcg1 = nI 0 := ecg1
    subst ecg1
    have Mcg1 : ce_rM cg1 d S := by rw [hcg1]; exact rM_ref hr
    have zcg1 : cg1 d 0 = nI 0 := by rw [hcg1]; exact ce_up_at _ _ _ _
    have ycg1 : ce_fr d (d + 11) g cg1 := fun x hx => by rw [hcg1]; exact ce_up_ne _ _ _ (by omega)
    refine ce_if_eqN (tgt := 26) dX8_about_21 (by decide) rfl (by omega) (fun c_21 => ?_) (fun c_21 => ?_)
    · refine ce_iload_n dX8_about_26 rfl ?_
      refine ce_tableIn (off := 76) (tgt := 103) dX8_about_27 (by decide) (by decide) (by decide) (by decide) ?_
      refine ce_aload_n dX8_about_103 rfl ?_
      refine ce_getR dX8_about_104 fRX8_16 hD.1 hD.2.1.2.2.1 ?_
      refine ce_cSp dX8_about_107 hX8_owedByAll kRX8_165 ((show ce_isum (sO S) (kq (sK S) 0 0) = ce_isum (sO S) 6 by rw [q0]; exact kq_isum hM hz) ▸ m_X8_owedByAll (d + 3) (kq (sK S)) (sO S) ⟨(hD.2.2.2.2.1).1, (hD.2.2.2.2.1).2⟩ Mcg1.2.1 h00) rfl rfl (by decide) (Nat.le_of_ble_eq_true rfl) ?_
      refine ce_iret dX8_about_110 rfl rfl (by decide) (by decide) ?_
      exact ⟨_, rfl, rfl, rfl, zcg1, Mcg1, ycg1⟩
    · omega
set_option maxHeartbeats 2000000 in
set_option maxRecDepth 20000 in
theorem m_X8_about_ok8 {σ : ce_S} {g : ce_D} (d : Nat) (S : ks_S) (hD : ce_LM σ d) (hr : ce_rM g d S) (ok : ks_ok S) (hz : ko_z (sK S) (sO S)) : ce_CT (ce_r 5) mX8_about [.ref (d), .int (nI (8))] σ g (ce_rv σ (fun z9 g1 => z9 = nI (kv_emp (sK S) (sK S 0 2)) ∧ g1 d 0 = nI 0 ∧ ce_rM g1 d S ∧ ce_fr d (d + 11) g g1)) ce_no := by
  have hB := ok.1.i7
  have hM := ok.1.me
  have hW := ok.1.wi
  have hst := ok.1.st
  have q0 : kq (sK S) 0 = sK S 0 := kq_ne (by decide)
  have h00 : kq (sK S) 0 0 ≤ 6 := by rw [q0]; exact hM
  have h01 : kq (sK S) 0 1 ≤ 6 := by rw [q0]; exact hW
  have h02 : kq (sK S) 0 2 ≤ 8 := by rw [q0]; exact hB
  have eqC : ce_sum (kq (sK S) 12) (kq (sK S) 0 2) = ce_sum (sK S 9) 36 := by rw [kq_ne (a := 12) (by decide), q0]; exact kq_cel ok.1
  have eqE : kv_emp (kq (sK S)) (kq (sK S) 0 2) = kv_emp (sK S) (sK S 0 2) := by rw [kq_emp, q0]
  have eqR : ce_sum (fun b => kq (sK S) 11 b - kq (sK S) 12 b) (kq (sK S) 0 2) = ce_sum (fun b => (sK S) 11 b - (sK S) 12 b) (sK S 0 2) := by rw [kq_ne (a := 11) (by decide), kq_ne (a := 12) (by decide), q0]
  refine ce_enter (by decide) rfl (Nat.le_of_ble_eq_true rfl) (L := [some (.ref (d)), some (.int (nI (8)))]) rfl ?_
  refine ce_aload_n dX8_about_0 rfl ?_
  refine ce_iload_n dX8_about_1 rfl ?_
  refine ce_i2l (v := (nI (8)).toInt64) dX8_about_2 rfl ?_
  refine ce_lconst (v := 0) dX8_about_3 (by decide) ?_
  refine ce_ldc2 dX8_about_4 kRX8_126 ?_
  refine ce_cSp dX8_about_7 hX8_in kRX8_108 (m_X8_in ((nI (8)).toInt64) (0) (9) ((0 : Int) ≤ ((8 : Nat) : Int) ∧ ((8 : Nat) : Int) ≤ (9 : Int)) (cr_io ((cr_tl (nI (8))).trans (nI_toInt (by omega))) (by decide) (by decide))) rfl rfl (by decide) (Nat.le_of_ble_eq_true rfl) ?_
  refine ce_if_eqB (tgt := 17) dX8_about_10 (by decide) rfl (fun c_10 => ?_) (fun c_10 => ?_)
  · refine ce_iconst (v := nI (1)) dX8_about_17 (by decide) ?_
    exfalso
    (try unfold ce_in at *)
    omega
  · refine ce_iconst (v := nI (0)) dX8_about_13 (by decide) ?_
    refine ce_goto (tgt := 18) dX8_about_14 (by decide) ?_
    refine ce_cVr dX8_about_18 hX8_refused kRX8_115 (m_X8_refused0 d hD) rfl rfl hD.1 rfl (by decide) (Nat.le_of_ble_eq_true rfl) (fun rcg1 cg1 hcg1 => ?_)
    obtain ⟨ecg1, hcg1⟩ := hcg1
    have ecg1 : rcg1 = nI 0 := ecg1
    subst ecg1
    have Mcg1 : ce_rM cg1 d S := by rw [hcg1]; exact rM_ref hr
    have zcg1 : cg1 d 0 = nI 0 := by rw [hcg1]; exact ce_up_at _ _ _ _
    have ycg1 : ce_fr d (d + 11) g cg1 := fun x hx => by rw [hcg1]; exact ce_up_ne _ _ _ (by omega)
    refine ce_if_eqN (tgt := 26) dX8_about_21 (by decide) rfl (by omega) (fun c_21 => ?_) (fun c_21 => ?_)
    · refine ce_iload_n dX8_about_26 rfl ?_
      refine ce_tableIn (off := 84) (tgt := 111) dX8_about_27 (by decide) (by decide) (by decide) (by decide) ?_
      refine ce_aload_n dX8_about_111 rfl ?_
      refine ce_getR dX8_about_112 fRX8_16 hD.1 hD.2.1.2.2.1 ?_
      refine ce_cSp dX8_about_115 hX8_emptyBins kRX8_168 (eqE ▸ m_X8_emptyBins (d + 3) (kq (sK S)) (sO S) ⟨(hD.2.2.2.2.1).1, (hD.2.2.2.2.1).2⟩ Mcg1.2.1 h02 (kq_rk ok.1.rk)) rfl rfl (by decide) (Nat.le_of_ble_eq_true rfl) ?_
      refine ce_iret dX8_about_118 rfl rfl (by decide) (by decide) ?_
      exact ⟨_, rfl, rfl, rfl, zcg1, Mcg1, ycg1⟩
    · omega
set_option maxHeartbeats 2000000 in
set_option maxRecDepth 20000 in
theorem m_X8_about_ok9 {σ : ce_S} {g : ce_D} (d : Nat) (S : ks_S) (hD : ce_LM σ d) (hr : ce_rM g d S) (ok : ks_ok S) (hz : ko_z (sK S) (sO S)) : ce_CT (ce_r 5) mX8_about [.ref (d), .int (nI (9))] σ g (ce_rv σ (fun z9 g1 => z9 = nI (ce_sum (fun b => (sK S) 11 b - (sK S) 12 b) (sK S 0 2)) ∧ g1 d 0 = nI 0 ∧ ce_rM g1 d S ∧ ce_fr d (d + 11) g g1)) ce_no := by
  have hB := ok.1.i7
  have hM := ok.1.me
  have hW := ok.1.wi
  have hst := ok.1.st
  have q0 : kq (sK S) 0 = sK S 0 := kq_ne (by decide)
  have h00 : kq (sK S) 0 0 ≤ 6 := by rw [q0]; exact hM
  have h01 : kq (sK S) 0 1 ≤ 6 := by rw [q0]; exact hW
  have h02 : kq (sK S) 0 2 ≤ 8 := by rw [q0]; exact hB
  have eqC : ce_sum (kq (sK S) 12) (kq (sK S) 0 2) = ce_sum (sK S 9) 36 := by rw [kq_ne (a := 12) (by decide), q0]; exact kq_cel ok.1
  have eqE : kv_emp (kq (sK S)) (kq (sK S) 0 2) = kv_emp (sK S) (sK S 0 2) := by rw [kq_emp, q0]
  have eqR : ce_sum (fun b => kq (sK S) 11 b - kq (sK S) 12 b) (kq (sK S) 0 2) = ce_sum (fun b => (sK S) 11 b - (sK S) 12 b) (sK S 0 2) := by rw [kq_ne (a := 11) (by decide), kq_ne (a := 12) (by decide), q0]
  refine ce_enter (by decide) rfl (Nat.le_of_ble_eq_true rfl) (L := [some (.ref (d)), some (.int (nI (9)))]) rfl ?_
  refine ce_aload_n dX8_about_0 rfl ?_
  refine ce_iload_n dX8_about_1 rfl ?_
  refine ce_i2l (v := (nI (9)).toInt64) dX8_about_2 rfl ?_
  refine ce_lconst (v := 0) dX8_about_3 (by decide) ?_
  refine ce_ldc2 dX8_about_4 kRX8_126 ?_
  refine ce_cSp dX8_about_7 hX8_in kRX8_108 (m_X8_in ((nI (9)).toInt64) (0) (9) ((0 : Int) ≤ ((9 : Nat) : Int) ∧ ((9 : Nat) : Int) ≤ (9 : Int)) (cr_io ((cr_tl (nI (9))).trans (nI_toInt (by omega))) (by decide) (by decide))) rfl rfl (by decide) (Nat.le_of_ble_eq_true rfl) ?_
  refine ce_if_eqB (tgt := 17) dX8_about_10 (by decide) rfl (fun c_10 => ?_) (fun c_10 => ?_)
  · refine ce_iconst (v := nI (1)) dX8_about_17 (by decide) ?_
    exfalso
    (try unfold ce_in at *)
    omega
  · refine ce_iconst (v := nI (0)) dX8_about_13 (by decide) ?_
    refine ce_goto (tgt := 18) dX8_about_14 (by decide) ?_
    refine ce_cVr dX8_about_18 hX8_refused kRX8_115 (m_X8_refused0 d hD) rfl rfl hD.1 rfl (by decide) (Nat.le_of_ble_eq_true rfl) (fun rcg1 cg1 hcg1 => ?_)
    obtain ⟨ecg1, hcg1⟩ := hcg1
    have ecg1 : rcg1 = nI 0 := ecg1
    subst ecg1
    have Mcg1 : ce_rM cg1 d S := by rw [hcg1]; exact rM_ref hr
    have zcg1 : cg1 d 0 = nI 0 := by rw [hcg1]; exact ce_up_at _ _ _ _
    have ycg1 : ce_fr d (d + 11) g cg1 := fun x hx => by rw [hcg1]; exact ce_up_ne _ _ _ (by omega)
    refine ce_if_eqN (tgt := 26) dX8_about_21 (by decide) rfl (by omega) (fun c_21 => ?_) (fun c_21 => ?_)
    · refine ce_iload_n dX8_about_26 rfl ?_
      refine ce_tableIn (off := 92) (tgt := 119) dX8_about_27 (by decide) (by decide) (by decide) (by decide) ?_
      refine ce_aload_n dX8_about_119 rfl ?_
      refine ce_getR dX8_about_120 fRX8_16 hD.1 hD.2.1.2.2.1 ?_
      refine ce_cSp dX8_about_123 hX8_allRoom kRX8_171 (eqR ▸ m_X8_allRoom (d + 3) (kq (sK S)) (sO S) ⟨(hD.2.2.2.2.1).1, (hD.2.2.2.2.1).2⟩ Mcg1.2.1 h02 (kq_rk ok.1.rk)) rfl rfl (by decide) (Nat.le_of_ble_eq_true rfl) ?_
      refine ce_iret dX8_about_126 rfl rfl (by decide) (by decide) ?_
      exact ⟨_, rfl, rfl, rfl, zcg1, Mcg1, ycg1⟩
    · omega
set_option maxHeartbeats 2000000 in
set_option maxRecDepth 20000 in
theorem m_X8_member_ok0 {σ : ce_S} {g : ce_D} (d : Nat) (S : ks_S) (hD : ce_LM σ d) (hr : ce_rM g d S) (ok : ks_ok S) (m : Nat) (hm : m < sK S 0 0) : ce_CT (ce_r 5) mX8_member [.ref (d), .int (nI (m)), .int (nI (0))] σ g (ce_rv σ (fun z9 g1 => z9 = nI (sK S 1 m) ∧ g1 d 0 = nI 0 ∧ ce_rM g1 d S ∧ ce_fr d (d + 11) g g1)) ce_no := by
  have hB := ok.1.i7
  have hM := ok.1.me
  have hW := ok.1.wi
  have hst := ok.1.st
  have q0 : kq (sK S) 0 = sK S 0 := kq_ne (by decide)
  have h00 : kq (sK S) 0 0 ≤ 6 := by rw [q0]; exact hM
  have h01 : kq (sK S) 0 1 ≤ 6 := by rw [q0]; exact hW
  have h02 : kq (sK S) 0 2 ≤ 8 := by rw [q0]; exact hB
  have eqC : ce_sum (kq (sK S) 12) (kq (sK S) 0 2) = ce_sum (sK S 9) 36 := by rw [kq_ne (a := 12) (by decide), q0]; exact kq_cel ok.1
  have eqE : kv_emp (kq (sK S)) (kq (sK S) 0 2) = kv_emp (sK S) (sK S 0 2) := by rw [kq_emp, q0]
  have eqR : ce_sum (fun b => kq (sK S) 11 b - kq (sK S) 12 b) (kq (sK S) 0 2) = ce_sum (fun b => (sK S) 11 b - (sK S) 12 b) (sK S 0 2) := by rw [kq_ne (a := 11) (by decide), kq_ne (a := 12) (by decide), q0]
  have em := nI_toInt (n := m) (by omega)
  refine ce_enter (by decide) rfl (Nat.le_of_ble_eq_true rfl) (L := [some (.ref (d)), some (.int (nI (m))), some (.int (nI (0)))]) rfl ?_
  refine ce_aload_n dX8_member_0 rfl ?_
  refine ce_aload_n dX8_member_1 rfl ?_
  refine ce_iload_n dX8_member_2 rfl ?_
  refine ce_cVp dX8_member_3 hX8_isMember kRX8_174 (n_isMember d (sK S) (sO S) hD hr.2.1 (nI (m)) (by omega)) rfl rfl hD.1 rfl (by decide) (Nat.le_of_ble_eq_true rfl) ?_
  refine ce_if_neB (tgt := 13) dX8_member_6 (by decide) rfl (fun c_6 => ?_) (fun c_6 => ?_)
  · refine ce_iload_n dX8_member_13 rfl ?_
    refine ce_i2l (v := (nI (0)).toInt64) dX8_member_14 rfl ?_
    refine ce_lconst (v := 0) dX8_member_15 (by decide) ?_
    refine ce_ldc2 dX8_member_16 kRX8_177 ?_
    refine ce_cSp dX8_member_19 hX8_in kRX8_108 (m_X8_in ((nI (0)).toInt64) (0) (3) ((0 : Int) ≤ ((0 : Nat) : Int) ∧ ((0 : Nat) : Int) ≤ (3 : Int)) (cr_io ((cr_tl (nI (0))).trans (nI_toInt (by omega))) (by decide) (by decide))) rfl rfl (by decide) (Nat.le_of_ble_eq_true rfl) ?_
    refine ce_if_eqB (tgt := 29) dX8_member_22 (by decide) rfl (fun c_22 => ?_) (fun c_22 => ?_)
    · refine ce_iconst (v := nI (2)) dX8_member_29 (by decide) ?_
      exfalso
      (try unfold ce_in at *)
      omega
    · refine ce_iconst (v := nI (0)) dX8_member_25 (by decide) ?_
      refine ce_goto (tgt := 30) dX8_member_26 (by decide) ?_
      refine ce_cVr dX8_member_30 hX8_refused kRX8_115 (m_X8_refused0 d hD) rfl rfl hD.1 rfl (by decide) (Nat.le_of_ble_eq_true rfl) (fun rcg1 cg1 hcg1 => ?_)
      obtain ⟨ecg1, hcg1⟩ := hcg1
      have ecg1 : rcg1 = nI 0 := ecg1
      subst ecg1
      have Mcg1 : ce_rM cg1 d S := by rw [hcg1]; exact rM_ref hr
      have zcg1 : cg1 d 0 = nI 0 := by rw [hcg1]; exact ce_up_at _ _ _ _
      have ycg1 : ce_fr d (d + 11) g cg1 := fun x hx => by rw [hcg1]; exact ce_up_ne _ _ _ (by omega)
      refine ce_if_eqN (tgt := 38) dX8_member_33 (by decide) rfl (by omega) (fun c_33 => ?_) (fun c_33 => ?_)
      · refine ce_iload_n dX8_member_38 rfl ?_
        refine ce_iconst (v := nI (2)) dX8_member_39 (by decide) ?_
        refine ce_icmp_neN (tgt := 54) dX8_member_40 (by decide) rfl rfl (by omega) (by omega) (fun c_40 => ?_) (fun c_40 => ?_)
        · refine ce_aload_n dX8_member_54 rfl ?_
          refine ce_getR dX8_member_55 fRX8_16 hD.1 hD.2.1.2.2.1 ?_
          refine ce_iload_n dX8_member_58 rfl ?_
          refine ce_cSp dX8_member_59 hX8_memberAt kRX8_83 (m_X8_memberAt (m)) rfl rfl (by decide) (Nat.le_of_ble_eq_true rfl) ?_
          refine ce_iload_n dX8_member_62 rfl ?_
          refine ce_iconst (v := nI (3)) dX8_member_63 (by decide) ?_
          refine ce_icmp_neN (tgt := 71) dX8_member_64 (by decide) rfl rfl (by omega) (by omega) (fun c_64 => ?_) (fun c_64 => ?_)
          · refine ce_iload_n dX8_member_71 rfl ?_
            refine ce_iadd (z := nI (3 + 3 * m + 0)) dX8_member_72 (nI_add _ _) ?_
            refine ce_ialdv dX8_member_73 (hD.2.2.2.2.1).1 rfl (hD.2.2.2.2.1).2 (by omega) (by decide) (((Mcg1.2.1).m0 (by omega)).trans (congrArg nI (by rw [kq_ne (by decide)]))) ?_
            refine ce_iret dX8_member_74 rfl rfl (by decide) (by decide) ?_
            exact ⟨_, rfl, rfl, rfl, zcg1, Mcg1, ycg1⟩
          · omega
        · omega
      · omega
  · refine ce_iconst (v := nI (1)) dX8_member_9 (by decide) ?_
    refine ce_goto (tgt := 30) dX8_member_10 (by decide) ?_
    exfalso
    (try unfold ce_in at *)
    omega
set_option maxHeartbeats 2000000 in
set_option maxRecDepth 20000 in
theorem m_X8_member_ok1 {σ : ce_S} {g : ce_D} (d : Nat) (S : ks_S) (hD : ce_LM σ d) (hr : ce_rM g d S) (ok : ks_ok S) (m : Nat) (hm : m < sK S 0 0) : ce_CT (ce_r 5) mX8_member [.ref (d), .int (nI (m)), .int (nI (1))] σ g (ce_rv σ (fun z9 g1 => z9 = sO S m ∧ g1 d 0 = nI 0 ∧ ce_rM g1 d S ∧ ce_fr d (d + 11) g g1)) ce_no := by
  have hB := ok.1.i7
  have hM := ok.1.me
  have hW := ok.1.wi
  have hst := ok.1.st
  have q0 : kq (sK S) 0 = sK S 0 := kq_ne (by decide)
  have h00 : kq (sK S) 0 0 ≤ 6 := by rw [q0]; exact hM
  have h01 : kq (sK S) 0 1 ≤ 6 := by rw [q0]; exact hW
  have h02 : kq (sK S) 0 2 ≤ 8 := by rw [q0]; exact hB
  have eqC : ce_sum (kq (sK S) 12) (kq (sK S) 0 2) = ce_sum (sK S 9) 36 := by rw [kq_ne (a := 12) (by decide), q0]; exact kq_cel ok.1
  have eqE : kv_emp (kq (sK S)) (kq (sK S) 0 2) = kv_emp (sK S) (sK S 0 2) := by rw [kq_emp, q0]
  have eqR : ce_sum (fun b => kq (sK S) 11 b - kq (sK S) 12 b) (kq (sK S) 0 2) = ce_sum (fun b => (sK S) 11 b - (sK S) 12 b) (sK S 0 2) := by rw [kq_ne (a := 11) (by decide), kq_ne (a := 12) (by decide), q0]
  have em := nI_toInt (n := m) (by omega)
  refine ce_enter (by decide) rfl (Nat.le_of_ble_eq_true rfl) (L := [some (.ref (d)), some (.int (nI (m))), some (.int (nI (1)))]) rfl ?_
  refine ce_aload_n dX8_member_0 rfl ?_
  refine ce_aload_n dX8_member_1 rfl ?_
  refine ce_iload_n dX8_member_2 rfl ?_
  refine ce_cVp dX8_member_3 hX8_isMember kRX8_174 (n_isMember d (sK S) (sO S) hD hr.2.1 (nI (m)) (by omega)) rfl rfl hD.1 rfl (by decide) (Nat.le_of_ble_eq_true rfl) ?_
  refine ce_if_neB (tgt := 13) dX8_member_6 (by decide) rfl (fun c_6 => ?_) (fun c_6 => ?_)
  · refine ce_iload_n dX8_member_13 rfl ?_
    refine ce_i2l (v := (nI (1)).toInt64) dX8_member_14 rfl ?_
    refine ce_lconst (v := 0) dX8_member_15 (by decide) ?_
    refine ce_ldc2 dX8_member_16 kRX8_177 ?_
    refine ce_cSp dX8_member_19 hX8_in kRX8_108 (m_X8_in ((nI (1)).toInt64) (0) (3) ((0 : Int) ≤ ((1 : Nat) : Int) ∧ ((1 : Nat) : Int) ≤ (3 : Int)) (cr_io ((cr_tl (nI (1))).trans (nI_toInt (by omega))) (by decide) (by decide))) rfl rfl (by decide) (Nat.le_of_ble_eq_true rfl) ?_
    refine ce_if_eqB (tgt := 29) dX8_member_22 (by decide) rfl (fun c_22 => ?_) (fun c_22 => ?_)
    · refine ce_iconst (v := nI (2)) dX8_member_29 (by decide) ?_
      exfalso
      (try unfold ce_in at *)
      omega
    · refine ce_iconst (v := nI (0)) dX8_member_25 (by decide) ?_
      refine ce_goto (tgt := 30) dX8_member_26 (by decide) ?_
      refine ce_cVr dX8_member_30 hX8_refused kRX8_115 (m_X8_refused0 d hD) rfl rfl hD.1 rfl (by decide) (Nat.le_of_ble_eq_true rfl) (fun rcg1 cg1 hcg1 => ?_)
      obtain ⟨ecg1, hcg1⟩ := hcg1
      have ecg1 : rcg1 = nI 0 := ecg1
      subst ecg1
      have Mcg1 : ce_rM cg1 d S := by rw [hcg1]; exact rM_ref hr
      have zcg1 : cg1 d 0 = nI 0 := by rw [hcg1]; exact ce_up_at _ _ _ _
      have ycg1 : ce_fr d (d + 11) g cg1 := fun x hx => by rw [hcg1]; exact ce_up_ne _ _ _ (by omega)
      refine ce_if_eqN (tgt := 38) dX8_member_33 (by decide) rfl (by omega) (fun c_33 => ?_) (fun c_33 => ?_)
      · refine ce_iload_n dX8_member_38 rfl ?_
        refine ce_iconst (v := nI (2)) dX8_member_39 (by decide) ?_
        refine ce_icmp_neN (tgt := 54) dX8_member_40 (by decide) rfl rfl (by omega) (by omega) (fun c_40 => ?_) (fun c_40 => ?_)
        · refine ce_aload_n dX8_member_54 rfl ?_
          refine ce_getR dX8_member_55 fRX8_16 hD.1 hD.2.1.2.2.1 ?_
          refine ce_iload_n dX8_member_58 rfl ?_
          refine ce_cSp dX8_member_59 hX8_memberAt kRX8_83 (m_X8_memberAt (m)) rfl rfl (by decide) (Nat.le_of_ble_eq_true rfl) ?_
          refine ce_iload_n dX8_member_62 rfl ?_
          refine ce_iconst (v := nI (3)) dX8_member_63 (by decide) ?_
          refine ce_icmp_neN (tgt := 71) dX8_member_64 (by decide) rfl rfl (by omega) (by omega) (fun c_64 => ?_) (fun c_64 => ?_)
          · refine ce_iload_n dX8_member_71 rfl ?_
            refine ce_iadd (z := nI (3 + 3 * m + 1)) dX8_member_72 (nI_add _ _) ?_
            refine ce_ialdv dX8_member_73 (hD.2.2.2.2.1).1 rfl (hD.2.2.2.2.1).2 (by omega) (by decide) ((Mcg1.2.1).m1 (by omega)) ?_
            refine ce_iret dX8_member_74 rfl rfl (by decide) (by decide) ?_
            exact ⟨_, rfl, rfl, rfl, zcg1, Mcg1, ycg1⟩
          · omega
        · omega
      · omega
  · refine ce_iconst (v := nI (1)) dX8_member_9 (by decide) ?_
    refine ce_goto (tgt := 30) dX8_member_10 (by decide) ?_
    exfalso
    (try unfold ce_in at *)
    omega
set_option maxHeartbeats 2000000 in
set_option maxRecDepth 20000 in
theorem m_X8_member_ok2 {σ : ce_S} {g : ce_D} (d : Nat) (S : ks_S) (hD : ce_LM σ d) (hr : ce_rM g d S) (ok : ks_ok S) (m : Nat) (hm : m < sK S 0 0) : ce_CT (ce_r 5) mX8_member [.ref (d), .int (nI (m)), .int (nI (2))] σ g (ce_rv σ (fun z9 g1 => z9 = nI (ce_sum (fun w => sK S 9 (m * 6 + w)) 6) ∧ g1 d 0 = nI 0 ∧ ce_rM g1 d S ∧ ce_fr d (d + 11) g g1)) ce_no := by
  have hB := ok.1.i7
  have hM := ok.1.me
  have hW := ok.1.wi
  have hst := ok.1.st
  have q0 : kq (sK S) 0 = sK S 0 := kq_ne (by decide)
  have h00 : kq (sK S) 0 0 ≤ 6 := by rw [q0]; exact hM
  have h01 : kq (sK S) 0 1 ≤ 6 := by rw [q0]; exact hW
  have h02 : kq (sK S) 0 2 ≤ 8 := by rw [q0]; exact hB
  have eqC : ce_sum (kq (sK S) 12) (kq (sK S) 0 2) = ce_sum (sK S 9) 36 := by rw [kq_ne (a := 12) (by decide), q0]; exact kq_cel ok.1
  have eqE : kv_emp (kq (sK S)) (kq (sK S) 0 2) = kv_emp (sK S) (sK S 0 2) := by rw [kq_emp, q0]
  have eqR : ce_sum (fun b => kq (sK S) 11 b - kq (sK S) 12 b) (kq (sK S) 0 2) = ce_sum (fun b => (sK S) 11 b - (sK S) 12 b) (sK S 0 2) := by rw [kq_ne (a := 11) (by decide), kq_ne (a := 12) (by decide), q0]
  have em := nI_toInt (n := m) (by omega)
  refine ce_enter (by decide) rfl (Nat.le_of_ble_eq_true rfl) (L := [some (.ref (d)), some (.int (nI (m))), some (.int (nI (2)))]) rfl ?_
  refine ce_aload_n dX8_member_0 rfl ?_
  refine ce_aload_n dX8_member_1 rfl ?_
  refine ce_iload_n dX8_member_2 rfl ?_
  refine ce_cVp dX8_member_3 hX8_isMember kRX8_174 (n_isMember d (sK S) (sO S) hD hr.2.1 (nI (m)) (by omega)) rfl rfl hD.1 rfl (by decide) (Nat.le_of_ble_eq_true rfl) ?_
  refine ce_if_neB (tgt := 13) dX8_member_6 (by decide) rfl (fun c_6 => ?_) (fun c_6 => ?_)
  · refine ce_iload_n dX8_member_13 rfl ?_
    refine ce_i2l (v := (nI (2)).toInt64) dX8_member_14 rfl ?_
    refine ce_lconst (v := 0) dX8_member_15 (by decide) ?_
    refine ce_ldc2 dX8_member_16 kRX8_177 ?_
    refine ce_cSp dX8_member_19 hX8_in kRX8_108 (m_X8_in ((nI (2)).toInt64) (0) (3) ((0 : Int) ≤ ((2 : Nat) : Int) ∧ ((2 : Nat) : Int) ≤ (3 : Int)) (cr_io ((cr_tl (nI (2))).trans (nI_toInt (by omega))) (by decide) (by decide))) rfl rfl (by decide) (Nat.le_of_ble_eq_true rfl) ?_
    refine ce_if_eqB (tgt := 29) dX8_member_22 (by decide) rfl (fun c_22 => ?_) (fun c_22 => ?_)
    · refine ce_iconst (v := nI (2)) dX8_member_29 (by decide) ?_
      exfalso
      (try unfold ce_in at *)
      omega
    · refine ce_iconst (v := nI (0)) dX8_member_25 (by decide) ?_
      refine ce_goto (tgt := 30) dX8_member_26 (by decide) ?_
      refine ce_cVr dX8_member_30 hX8_refused kRX8_115 (m_X8_refused0 d hD) rfl rfl hD.1 rfl (by decide) (Nat.le_of_ble_eq_true rfl) (fun rcg1 cg1 hcg1 => ?_)
      obtain ⟨ecg1, hcg1⟩ := hcg1
      have ecg1 : rcg1 = nI 0 := ecg1
      subst ecg1
      have Mcg1 : ce_rM cg1 d S := by rw [hcg1]; exact rM_ref hr
      have zcg1 : cg1 d 0 = nI 0 := by rw [hcg1]; exact ce_up_at _ _ _ _
      have ycg1 : ce_fr d (d + 11) g cg1 := fun x hx => by rw [hcg1]; exact ce_up_ne _ _ _ (by omega)
      refine ce_if_eqN (tgt := 38) dX8_member_33 (by decide) rfl (by omega) (fun c_33 => ?_) (fun c_33 => ?_)
      · refine ce_iload_n dX8_member_38 rfl ?_
        refine ce_iconst (v := nI (2)) dX8_member_39 (by decide) ?_
        refine ce_icmp_neN (tgt := 54) dX8_member_40 (by decide) rfl rfl (by omega) (by omega) (fun c_40 => ?_) (fun c_40 => ?_)
        · omega
        · refine ce_aload_n dX8_member_43 rfl ?_
          refine ce_getR dX8_member_44 fRX8_16 hD.1 hD.2.1.2.2.1 ?_
          refine ce_iload_n dX8_member_47 rfl ?_
          refine ce_cSp dX8_member_48 hX8_ownedBy kRX8_179 ((show ce_sum (fun w => kq (sK S) 9 (m * 6 + w)) (kq (sK S) 0 1) = ce_sum (fun w => sK S 9 (m * 6 + w)) 6 by rw [q0, kq_ne (a := 9) (by decide)]; exact kq_m9 ok.1 (by omega)) ▸ m_X8_ownedBy (d + 3) (kq (sK S)) (sO S) ⟨(hD.2.2.2.2.1).1, (hD.2.2.2.2.1).2⟩ Mcg1.2.1 (m) h01 (by omega)) rfl rfl (by decide) (Nat.le_of_ble_eq_true rfl) ?_
          refine ce_goto (tgt := 74) dX8_member_51 (by decide) ?_
          refine ce_iret dX8_member_74 rfl rfl (by decide) (by decide) ?_
          exact ⟨_, rfl, rfl, rfl, zcg1, Mcg1, ycg1⟩
      · omega
  · refine ce_iconst (v := nI (1)) dX8_member_9 (by decide) ?_
    refine ce_goto (tgt := 30) dX8_member_10 (by decide) ?_
    exfalso
    (try unfold ce_in at *)
    omega
set_option maxHeartbeats 2000000 in
set_option maxRecDepth 20000 in
theorem m_X8_member_ok3 {σ : ce_S} {g : ce_D} (d : Nat) (S : ks_S) (hD : ce_LM σ d) (hr : ce_rM g d S) (ok : ks_ok S) (m : Nat) (hm : m < sK S 0 0) : ce_CT (ce_r 5) mX8_member [.ref (d), .int (nI (m)), .int (nI (3))] σ g (ce_rv σ (fun z9 g1 => z9 = nI (ce_sum (fun w => sK S 10 (m * 6 + w)) 6) ∧ g1 d 0 = nI 0 ∧ ce_rM g1 d S ∧ ce_fr d (d + 11) g g1)) ce_no := by
  have hB := ok.1.i7
  have hM := ok.1.me
  have hW := ok.1.wi
  have hst := ok.1.st
  have q0 : kq (sK S) 0 = sK S 0 := kq_ne (by decide)
  have h00 : kq (sK S) 0 0 ≤ 6 := by rw [q0]; exact hM
  have h01 : kq (sK S) 0 1 ≤ 6 := by rw [q0]; exact hW
  have h02 : kq (sK S) 0 2 ≤ 8 := by rw [q0]; exact hB
  have eqC : ce_sum (kq (sK S) 12) (kq (sK S) 0 2) = ce_sum (sK S 9) 36 := by rw [kq_ne (a := 12) (by decide), q0]; exact kq_cel ok.1
  have eqE : kv_emp (kq (sK S)) (kq (sK S) 0 2) = kv_emp (sK S) (sK S 0 2) := by rw [kq_emp, q0]
  have eqR : ce_sum (fun b => kq (sK S) 11 b - kq (sK S) 12 b) (kq (sK S) 0 2) = ce_sum (fun b => (sK S) 11 b - (sK S) 12 b) (sK S 0 2) := by rw [kq_ne (a := 11) (by decide), kq_ne (a := 12) (by decide), q0]
  have em := nI_toInt (n := m) (by omega)
  refine ce_enter (by decide) rfl (Nat.le_of_ble_eq_true rfl) (L := [some (.ref (d)), some (.int (nI (m))), some (.int (nI (3)))]) rfl ?_
  refine ce_aload_n dX8_member_0 rfl ?_
  refine ce_aload_n dX8_member_1 rfl ?_
  refine ce_iload_n dX8_member_2 rfl ?_
  refine ce_cVp dX8_member_3 hX8_isMember kRX8_174 (n_isMember d (sK S) (sO S) hD hr.2.1 (nI (m)) (by omega)) rfl rfl hD.1 rfl (by decide) (Nat.le_of_ble_eq_true rfl) ?_
  refine ce_if_neB (tgt := 13) dX8_member_6 (by decide) rfl (fun c_6 => ?_) (fun c_6 => ?_)
  · refine ce_iload_n dX8_member_13 rfl ?_
    refine ce_i2l (v := (nI (3)).toInt64) dX8_member_14 rfl ?_
    refine ce_lconst (v := 0) dX8_member_15 (by decide) ?_
    refine ce_ldc2 dX8_member_16 kRX8_177 ?_
    refine ce_cSp dX8_member_19 hX8_in kRX8_108 (m_X8_in ((nI (3)).toInt64) (0) (3) ((0 : Int) ≤ ((3 : Nat) : Int) ∧ ((3 : Nat) : Int) ≤ (3 : Int)) (cr_io ((cr_tl (nI (3))).trans (nI_toInt (by omega))) (by decide) (by decide))) rfl rfl (by decide) (Nat.le_of_ble_eq_true rfl) ?_
    refine ce_if_eqB (tgt := 29) dX8_member_22 (by decide) rfl (fun c_22 => ?_) (fun c_22 => ?_)
    · refine ce_iconst (v := nI (2)) dX8_member_29 (by decide) ?_
      exfalso
      (try unfold ce_in at *)
      omega
    · refine ce_iconst (v := nI (0)) dX8_member_25 (by decide) ?_
      refine ce_goto (tgt := 30) dX8_member_26 (by decide) ?_
      refine ce_cVr dX8_member_30 hX8_refused kRX8_115 (m_X8_refused0 d hD) rfl rfl hD.1 rfl (by decide) (Nat.le_of_ble_eq_true rfl) (fun rcg1 cg1 hcg1 => ?_)
      obtain ⟨ecg1, hcg1⟩ := hcg1
      have ecg1 : rcg1 = nI 0 := ecg1
      subst ecg1
      have Mcg1 : ce_rM cg1 d S := by rw [hcg1]; exact rM_ref hr
      have zcg1 : cg1 d 0 = nI 0 := by rw [hcg1]; exact ce_up_at _ _ _ _
      have ycg1 : ce_fr d (d + 11) g cg1 := fun x hx => by rw [hcg1]; exact ce_up_ne _ _ _ (by omega)
      refine ce_if_eqN (tgt := 38) dX8_member_33 (by decide) rfl (by omega) (fun c_33 => ?_) (fun c_33 => ?_)
      · refine ce_iload_n dX8_member_38 rfl ?_
        refine ce_iconst (v := nI (2)) dX8_member_39 (by decide) ?_
        refine ce_icmp_neN (tgt := 54) dX8_member_40 (by decide) rfl rfl (by omega) (by omega) (fun c_40 => ?_) (fun c_40 => ?_)
        · refine ce_aload_n dX8_member_54 rfl ?_
          refine ce_getR dX8_member_55 fRX8_16 hD.1 hD.2.1.2.2.1 ?_
          refine ce_iload_n dX8_member_58 rfl ?_
          refine ce_cSp dX8_member_59 hX8_memberAt kRX8_83 (m_X8_memberAt (m)) rfl rfl (by decide) (Nat.le_of_ble_eq_true rfl) ?_
          refine ce_iload_n dX8_member_62 rfl ?_
          refine ce_iconst (v := nI (3)) dX8_member_63 (by decide) ?_
          refine ce_icmp_neN (tgt := 71) dX8_member_64 (by decide) rfl rfl (by omega) (by omega) (fun c_64 => ?_) (fun c_64 => ?_)
          · omega
          · refine ce_iconst (v := nI (2)) dX8_member_67 (by decide) ?_
            refine ce_goto (tgt := 72) dX8_member_68 (by decide) ?_
            refine ce_iadd (z := nI (3 + 3 * m + 2)) dX8_member_72 (nI_add _ _) ?_
            refine ce_ialdv dX8_member_73 (hD.2.2.2.2.1).1 rfl (hD.2.2.2.2.1).2 (by omega) (by decide) ((Mcg1.2.1).m2 (by omega)) ?_
            refine ce_iret dX8_member_74 rfl rfl (by decide) (by decide) ?_
            exact ⟨_, rfl, rfl, congrArg nI kq_14, zcg1, Mcg1, ycg1⟩
        · omega
      · omega
  · refine ce_iconst (v := nI (1)) dX8_member_9 (by decide) ?_
    refine ce_goto (tgt := 30) dX8_member_10 (by decide) ?_
    exfalso
    (try unfold ce_in at *)
    omega
set_option maxHeartbeats 2000000 in
set_option maxRecDepth 20000 in
theorem m_X8_wine_ok0 {σ : ce_S} {g : ce_D} (d : Nat) (S : ks_S) (hD : ce_LM σ d) (hr : ce_rM g d S) (ok : ks_ok S) (w : Nat) (hw : w < sK S 0 1) : ce_CT (ce_r 5) mX8_wine [.ref (d), .int (nI (w)), .int (nI (0))] σ g (ce_rv σ (fun z9 g1 => z9 = nI (sK S 2 w) ∧ g1 d 0 = nI 0 ∧ ce_rM g1 d S ∧ ce_fr d (d + 11) g g1)) ce_no := by
  have hB := ok.1.i7
  have hM := ok.1.me
  have hW := ok.1.wi
  have hst := ok.1.st
  have q0 : kq (sK S) 0 = sK S 0 := kq_ne (by decide)
  have h00 : kq (sK S) 0 0 ≤ 6 := by rw [q0]; exact hM
  have h01 : kq (sK S) 0 1 ≤ 6 := by rw [q0]; exact hW
  have h02 : kq (sK S) 0 2 ≤ 8 := by rw [q0]; exact hB
  have eqC : ce_sum (kq (sK S) 12) (kq (sK S) 0 2) = ce_sum (sK S 9) 36 := by rw [kq_ne (a := 12) (by decide), q0]; exact kq_cel ok.1
  have eqE : kv_emp (kq (sK S)) (kq (sK S) 0 2) = kv_emp (sK S) (sK S 0 2) := by rw [kq_emp, q0]
  have eqR : ce_sum (fun b => kq (sK S) 11 b - kq (sK S) 12 b) (kq (sK S) 0 2) = ce_sum (fun b => (sK S) 11 b - (sK S) 12 b) (sK S 0 2) := by rw [kq_ne (a := 11) (by decide), kq_ne (a := 12) (by decide), q0]
  have ew := nI_toInt (n := w) (by omega)
  refine ce_enter (by decide) rfl (Nat.le_of_ble_eq_true rfl) (L := [some (.ref (d)), some (.int (nI (w))), some (.int (nI (0)))]) rfl ?_
  refine ce_aload_n dX8_wine_0 rfl ?_
  refine ce_aload_n dX8_wine_1 rfl ?_
  refine ce_iload_n dX8_wine_2 rfl ?_
  refine ce_cVp dX8_wine_3 hX8_isWine kRX8_182 (n_isWine d (sK S) (sO S) hD hr.2.1 (nI (w)) (by omega)) rfl rfl hD.1 rfl (by decide) (Nat.le_of_ble_eq_true rfl) ?_
  refine ce_if_neB (tgt := 13) dX8_wine_6 (by decide) rfl (fun c_6 => ?_) (fun c_6 => ?_)
  · refine ce_iload_n dX8_wine_13 rfl ?_
    refine ce_i2l (v := (nI (0)).toInt64) dX8_wine_14 rfl ?_
    refine ce_lconst (v := 0) dX8_wine_15 (by decide) ?_
    refine ce_ldc2 dX8_wine_16 kRX8_185 ?_
    refine ce_cSp dX8_wine_19 hX8_in kRX8_108 (m_X8_in ((nI (0)).toInt64) (0) (8) ((0 : Int) ≤ ((0 : Nat) : Int) ∧ ((0 : Nat) : Int) ≤ (8 : Int)) (cr_io ((cr_tl (nI (0))).trans (nI_toInt (by omega))) (by decide) (by decide))) rfl rfl (by decide) (Nat.le_of_ble_eq_true rfl) ?_
    refine ce_if_eqB (tgt := 29) dX8_wine_22 (by decide) rfl (fun c_22 => ?_) (fun c_22 => ?_)
    · refine ce_iconst (v := nI (2)) dX8_wine_29 (by decide) ?_
      exfalso
      (try unfold ce_in at *)
      omega
    · refine ce_iconst (v := nI (0)) dX8_wine_25 (by decide) ?_
      refine ce_goto (tgt := 30) dX8_wine_26 (by decide) ?_
      refine ce_cVr dX8_wine_30 hX8_refused kRX8_115 (m_X8_refused0 d hD) rfl rfl hD.1 rfl (by decide) (Nat.le_of_ble_eq_true rfl) (fun rcg1 cg1 hcg1 => ?_)
      obtain ⟨ecg1, hcg1⟩ := hcg1
      have ecg1 : rcg1 = nI 0 := ecg1
      subst ecg1
      have Mcg1 : ce_rM cg1 d S := by rw [hcg1]; exact rM_ref hr
      have zcg1 : cg1 d 0 = nI 0 := by rw [hcg1]; exact ce_up_at _ _ _ _
      have ycg1 : ce_fr d (d + 11) g cg1 := fun x hx => by rw [hcg1]; exact ce_up_ne _ _ _ (by omega)
      refine ce_if_eqN (tgt := 38) dX8_wine_33 (by decide) rfl (by omega) (fun c_33 => ?_) (fun c_33 => ?_)
      · refine ce_iload_n dX8_wine_38 rfl ?_
        refine ce_tableOut (tgt := 126) dX8_wine_39 (by decide) (by decide) ?_
        refine ce_aload_n dX8_wine_126 rfl ?_
        refine ce_getR dX8_wine_127 fRX8_16 hD.1 hD.2.1.2.2.1 ?_
        refine ce_iload_n dX8_wine_130 rfl ?_
        refine ce_cSp dX8_wine_131 hX8_wineAt kRX8_62 (m_X8_wineAt (w)) rfl rfl (by decide) (Nat.le_of_ble_eq_true rfl) ?_
        refine ce_iload_n dX8_wine_134 rfl ?_
        refine ce_iadd (z := nI (21 + 6 * w + 0)) dX8_wine_135 (nI_add _ _) ?_
        refine ce_ialdv dX8_wine_136 (hD.2.2.2.2.1).1 rfl (hD.2.2.2.2.1).2 (by omega) (by decide) (((Mcg1.2.1).w0 (by omega)).trans (congrArg nI (by rw [kq_ne (by decide)]))) ?_
        refine ce_iret dX8_wine_137 rfl rfl (by decide) (by decide) ?_
        exact ⟨_, rfl, rfl, rfl, zcg1, Mcg1, ycg1⟩
      · omega
  · refine ce_iconst (v := nI (1)) dX8_wine_9 (by decide) ?_
    refine ce_goto (tgt := 30) dX8_wine_10 (by decide) ?_
    exfalso
    (try unfold ce_in at *)
    omega
set_option maxHeartbeats 2000000 in
set_option maxRecDepth 20000 in
theorem m_X8_wine_ok1 {σ : ce_S} {g : ce_D} (d : Nat) (S : ks_S) (hD : ce_LM σ d) (hr : ce_rM g d S) (ok : ks_ok S) (w : Nat) (hw : w < sK S 0 1) : ce_CT (ce_r 5) mX8_wine [.ref (d), .int (nI (w)), .int (nI (1))] σ g (ce_rv σ (fun z9 g1 => z9 = nI (sK S 3 w) ∧ g1 d 0 = nI 0 ∧ ce_rM g1 d S ∧ ce_fr d (d + 11) g g1)) ce_no := by
  have hB := ok.1.i7
  have hM := ok.1.me
  have hW := ok.1.wi
  have hst := ok.1.st
  have q0 : kq (sK S) 0 = sK S 0 := kq_ne (by decide)
  have h00 : kq (sK S) 0 0 ≤ 6 := by rw [q0]; exact hM
  have h01 : kq (sK S) 0 1 ≤ 6 := by rw [q0]; exact hW
  have h02 : kq (sK S) 0 2 ≤ 8 := by rw [q0]; exact hB
  have eqC : ce_sum (kq (sK S) 12) (kq (sK S) 0 2) = ce_sum (sK S 9) 36 := by rw [kq_ne (a := 12) (by decide), q0]; exact kq_cel ok.1
  have eqE : kv_emp (kq (sK S)) (kq (sK S) 0 2) = kv_emp (sK S) (sK S 0 2) := by rw [kq_emp, q0]
  have eqR : ce_sum (fun b => kq (sK S) 11 b - kq (sK S) 12 b) (kq (sK S) 0 2) = ce_sum (fun b => (sK S) 11 b - (sK S) 12 b) (sK S 0 2) := by rw [kq_ne (a := 11) (by decide), kq_ne (a := 12) (by decide), q0]
  have ew := nI_toInt (n := w) (by omega)
  refine ce_enter (by decide) rfl (Nat.le_of_ble_eq_true rfl) (L := [some (.ref (d)), some (.int (nI (w))), some (.int (nI (1)))]) rfl ?_
  refine ce_aload_n dX8_wine_0 rfl ?_
  refine ce_aload_n dX8_wine_1 rfl ?_
  refine ce_iload_n dX8_wine_2 rfl ?_
  refine ce_cVp dX8_wine_3 hX8_isWine kRX8_182 (n_isWine d (sK S) (sO S) hD hr.2.1 (nI (w)) (by omega)) rfl rfl hD.1 rfl (by decide) (Nat.le_of_ble_eq_true rfl) ?_
  refine ce_if_neB (tgt := 13) dX8_wine_6 (by decide) rfl (fun c_6 => ?_) (fun c_6 => ?_)
  · refine ce_iload_n dX8_wine_13 rfl ?_
    refine ce_i2l (v := (nI (1)).toInt64) dX8_wine_14 rfl ?_
    refine ce_lconst (v := 0) dX8_wine_15 (by decide) ?_
    refine ce_ldc2 dX8_wine_16 kRX8_185 ?_
    refine ce_cSp dX8_wine_19 hX8_in kRX8_108 (m_X8_in ((nI (1)).toInt64) (0) (8) ((0 : Int) ≤ ((1 : Nat) : Int) ∧ ((1 : Nat) : Int) ≤ (8 : Int)) (cr_io ((cr_tl (nI (1))).trans (nI_toInt (by omega))) (by decide) (by decide))) rfl rfl (by decide) (Nat.le_of_ble_eq_true rfl) ?_
    refine ce_if_eqB (tgt := 29) dX8_wine_22 (by decide) rfl (fun c_22 => ?_) (fun c_22 => ?_)
    · refine ce_iconst (v := nI (2)) dX8_wine_29 (by decide) ?_
      exfalso
      (try unfold ce_in at *)
      omega
    · refine ce_iconst (v := nI (0)) dX8_wine_25 (by decide) ?_
      refine ce_goto (tgt := 30) dX8_wine_26 (by decide) ?_
      refine ce_cVr dX8_wine_30 hX8_refused kRX8_115 (m_X8_refused0 d hD) rfl rfl hD.1 rfl (by decide) (Nat.le_of_ble_eq_true rfl) (fun rcg1 cg1 hcg1 => ?_)
      obtain ⟨ecg1, hcg1⟩ := hcg1
      have ecg1 : rcg1 = nI 0 := ecg1
      subst ecg1
      have Mcg1 : ce_rM cg1 d S := by rw [hcg1]; exact rM_ref hr
      have zcg1 : cg1 d 0 = nI 0 := by rw [hcg1]; exact ce_up_at _ _ _ _
      have ycg1 : ce_fr d (d + 11) g cg1 := fun x hx => by rw [hcg1]; exact ce_up_ne _ _ _ (by omega)
      refine ce_if_eqN (tgt := 38) dX8_wine_33 (by decide) rfl (by omega) (fun c_33 => ?_) (fun c_33 => ?_)
      · refine ce_iload_n dX8_wine_38 rfl ?_
        refine ce_tableOut (tgt := 126) dX8_wine_39 (by decide) (by decide) ?_
        refine ce_aload_n dX8_wine_126 rfl ?_
        refine ce_getR dX8_wine_127 fRX8_16 hD.1 hD.2.1.2.2.1 ?_
        refine ce_iload_n dX8_wine_130 rfl ?_
        refine ce_cSp dX8_wine_131 hX8_wineAt kRX8_62 (m_X8_wineAt (w)) rfl rfl (by decide) (Nat.le_of_ble_eq_true rfl) ?_
        refine ce_iload_n dX8_wine_134 rfl ?_
        refine ce_iadd (z := nI (21 + 6 * w + 1)) dX8_wine_135 (nI_add _ _) ?_
        refine ce_ialdv dX8_wine_136 (hD.2.2.2.2.1).1 rfl (hD.2.2.2.2.1).2 (by omega) (by decide) (((Mcg1.2.1).w1 (by omega)).trans (congrArg nI (by rw [kq_ne (by decide)]))) ?_
        refine ce_iret dX8_wine_137 rfl rfl (by decide) (by decide) ?_
        exact ⟨_, rfl, rfl, rfl, zcg1, Mcg1, ycg1⟩
      · omega
  · refine ce_iconst (v := nI (1)) dX8_wine_9 (by decide) ?_
    refine ce_goto (tgt := 30) dX8_wine_10 (by decide) ?_
    exfalso
    (try unfold ce_in at *)
    omega
set_option maxHeartbeats 2000000 in
set_option maxRecDepth 20000 in
theorem m_X8_wine_ok2 {σ : ce_S} {g : ce_D} (d : Nat) (S : ks_S) (hD : ce_LM σ d) (hr : ce_rM g d S) (ok : ks_ok S) (w : Nat) (hw : w < sK S 0 1) : ce_CT (ce_r 5) mX8_wine [.ref (d), .int (nI (w)), .int (nI (2))] σ g (ce_rv σ (fun z9 g1 => z9 = nI (sK S 4 w) ∧ g1 d 0 = nI 0 ∧ ce_rM g1 d S ∧ ce_fr d (d + 11) g g1)) ce_no := by
  have hB := ok.1.i7
  have hM := ok.1.me
  have hW := ok.1.wi
  have hst := ok.1.st
  have q0 : kq (sK S) 0 = sK S 0 := kq_ne (by decide)
  have h00 : kq (sK S) 0 0 ≤ 6 := by rw [q0]; exact hM
  have h01 : kq (sK S) 0 1 ≤ 6 := by rw [q0]; exact hW
  have h02 : kq (sK S) 0 2 ≤ 8 := by rw [q0]; exact hB
  have eqC : ce_sum (kq (sK S) 12) (kq (sK S) 0 2) = ce_sum (sK S 9) 36 := by rw [kq_ne (a := 12) (by decide), q0]; exact kq_cel ok.1
  have eqE : kv_emp (kq (sK S)) (kq (sK S) 0 2) = kv_emp (sK S) (sK S 0 2) := by rw [kq_emp, q0]
  have eqR : ce_sum (fun b => kq (sK S) 11 b - kq (sK S) 12 b) (kq (sK S) 0 2) = ce_sum (fun b => (sK S) 11 b - (sK S) 12 b) (sK S 0 2) := by rw [kq_ne (a := 11) (by decide), kq_ne (a := 12) (by decide), q0]
  have ew := nI_toInt (n := w) (by omega)
  refine ce_enter (by decide) rfl (Nat.le_of_ble_eq_true rfl) (L := [some (.ref (d)), some (.int (nI (w))), some (.int (nI (2)))]) rfl ?_
  refine ce_aload_n dX8_wine_0 rfl ?_
  refine ce_aload_n dX8_wine_1 rfl ?_
  refine ce_iload_n dX8_wine_2 rfl ?_
  refine ce_cVp dX8_wine_3 hX8_isWine kRX8_182 (n_isWine d (sK S) (sO S) hD hr.2.1 (nI (w)) (by omega)) rfl rfl hD.1 rfl (by decide) (Nat.le_of_ble_eq_true rfl) ?_
  refine ce_if_neB (tgt := 13) dX8_wine_6 (by decide) rfl (fun c_6 => ?_) (fun c_6 => ?_)
  · refine ce_iload_n dX8_wine_13 rfl ?_
    refine ce_i2l (v := (nI (2)).toInt64) dX8_wine_14 rfl ?_
    refine ce_lconst (v := 0) dX8_wine_15 (by decide) ?_
    refine ce_ldc2 dX8_wine_16 kRX8_185 ?_
    refine ce_cSp dX8_wine_19 hX8_in kRX8_108 (m_X8_in ((nI (2)).toInt64) (0) (8) ((0 : Int) ≤ ((2 : Nat) : Int) ∧ ((2 : Nat) : Int) ≤ (8 : Int)) (cr_io ((cr_tl (nI (2))).trans (nI_toInt (by omega))) (by decide) (by decide))) rfl rfl (by decide) (Nat.le_of_ble_eq_true rfl) ?_
    refine ce_if_eqB (tgt := 29) dX8_wine_22 (by decide) rfl (fun c_22 => ?_) (fun c_22 => ?_)
    · refine ce_iconst (v := nI (2)) dX8_wine_29 (by decide) ?_
      exfalso
      (try unfold ce_in at *)
      omega
    · refine ce_iconst (v := nI (0)) dX8_wine_25 (by decide) ?_
      refine ce_goto (tgt := 30) dX8_wine_26 (by decide) ?_
      refine ce_cVr dX8_wine_30 hX8_refused kRX8_115 (m_X8_refused0 d hD) rfl rfl hD.1 rfl (by decide) (Nat.le_of_ble_eq_true rfl) (fun rcg1 cg1 hcg1 => ?_)
      obtain ⟨ecg1, hcg1⟩ := hcg1
      have ecg1 : rcg1 = nI 0 := ecg1
      subst ecg1
      have Mcg1 : ce_rM cg1 d S := by rw [hcg1]; exact rM_ref hr
      have zcg1 : cg1 d 0 = nI 0 := by rw [hcg1]; exact ce_up_at _ _ _ _
      have ycg1 : ce_fr d (d + 11) g cg1 := fun x hx => by rw [hcg1]; exact ce_up_ne _ _ _ (by omega)
      refine ce_if_eqN (tgt := 38) dX8_wine_33 (by decide) rfl (by omega) (fun c_33 => ?_) (fun c_33 => ?_)
      · refine ce_iload_n dX8_wine_38 rfl ?_
        refine ce_tableOut (tgt := 126) dX8_wine_39 (by decide) (by decide) ?_
        refine ce_aload_n dX8_wine_126 rfl ?_
        refine ce_getR dX8_wine_127 fRX8_16 hD.1 hD.2.1.2.2.1 ?_
        refine ce_iload_n dX8_wine_130 rfl ?_
        refine ce_cSp dX8_wine_131 hX8_wineAt kRX8_62 (m_X8_wineAt (w)) rfl rfl (by decide) (Nat.le_of_ble_eq_true rfl) ?_
        refine ce_iload_n dX8_wine_134 rfl ?_
        refine ce_iadd (z := nI (21 + 6 * w + 2)) dX8_wine_135 (nI_add _ _) ?_
        refine ce_ialdv dX8_wine_136 (hD.2.2.2.2.1).1 rfl (hD.2.2.2.2.1).2 (by omega) (by decide) (((Mcg1.2.1).w2 (by omega)).trans (congrArg nI (by rw [kq_ne (by decide)]))) ?_
        refine ce_iret dX8_wine_137 rfl rfl (by decide) (by decide) ?_
        exact ⟨_, rfl, rfl, rfl, zcg1, Mcg1, ycg1⟩
      · omega
  · refine ce_iconst (v := nI (1)) dX8_wine_9 (by decide) ?_
    refine ce_goto (tgt := 30) dX8_wine_10 (by decide) ?_
    exfalso
    (try unfold ce_in at *)
    omega
set_option maxHeartbeats 2000000 in
set_option maxRecDepth 20000 in
theorem m_X8_wine_ok3 {σ : ce_S} {g : ce_D} (d : Nat) (S : ks_S) (hD : ce_LM σ d) (hr : ce_rM g d S) (ok : ks_ok S) (w : Nat) (hw : w < sK S 0 1) : ce_CT (ce_r 5) mX8_wine [.ref (d), .int (nI (w)), .int (nI (3))] σ g (ce_rv σ (fun z9 g1 => z9 = nI (sK S 5 w) ∧ g1 d 0 = nI 0 ∧ ce_rM g1 d S ∧ ce_fr d (d + 11) g g1)) ce_no := by
  have hB := ok.1.i7
  have hM := ok.1.me
  have hW := ok.1.wi
  have hst := ok.1.st
  have q0 : kq (sK S) 0 = sK S 0 := kq_ne (by decide)
  have h00 : kq (sK S) 0 0 ≤ 6 := by rw [q0]; exact hM
  have h01 : kq (sK S) 0 1 ≤ 6 := by rw [q0]; exact hW
  have h02 : kq (sK S) 0 2 ≤ 8 := by rw [q0]; exact hB
  have eqC : ce_sum (kq (sK S) 12) (kq (sK S) 0 2) = ce_sum (sK S 9) 36 := by rw [kq_ne (a := 12) (by decide), q0]; exact kq_cel ok.1
  have eqE : kv_emp (kq (sK S)) (kq (sK S) 0 2) = kv_emp (sK S) (sK S 0 2) := by rw [kq_emp, q0]
  have eqR : ce_sum (fun b => kq (sK S) 11 b - kq (sK S) 12 b) (kq (sK S) 0 2) = ce_sum (fun b => (sK S) 11 b - (sK S) 12 b) (sK S 0 2) := by rw [kq_ne (a := 11) (by decide), kq_ne (a := 12) (by decide), q0]
  have ew := nI_toInt (n := w) (by omega)
  refine ce_enter (by decide) rfl (Nat.le_of_ble_eq_true rfl) (L := [some (.ref (d)), some (.int (nI (w))), some (.int (nI (3)))]) rfl ?_
  refine ce_aload_n dX8_wine_0 rfl ?_
  refine ce_aload_n dX8_wine_1 rfl ?_
  refine ce_iload_n dX8_wine_2 rfl ?_
  refine ce_cVp dX8_wine_3 hX8_isWine kRX8_182 (n_isWine d (sK S) (sO S) hD hr.2.1 (nI (w)) (by omega)) rfl rfl hD.1 rfl (by decide) (Nat.le_of_ble_eq_true rfl) ?_
  refine ce_if_neB (tgt := 13) dX8_wine_6 (by decide) rfl (fun c_6 => ?_) (fun c_6 => ?_)
  · refine ce_iload_n dX8_wine_13 rfl ?_
    refine ce_i2l (v := (nI (3)).toInt64) dX8_wine_14 rfl ?_
    refine ce_lconst (v := 0) dX8_wine_15 (by decide) ?_
    refine ce_ldc2 dX8_wine_16 kRX8_185 ?_
    refine ce_cSp dX8_wine_19 hX8_in kRX8_108 (m_X8_in ((nI (3)).toInt64) (0) (8) ((0 : Int) ≤ ((3 : Nat) : Int) ∧ ((3 : Nat) : Int) ≤ (8 : Int)) (cr_io ((cr_tl (nI (3))).trans (nI_toInt (by omega))) (by decide) (by decide))) rfl rfl (by decide) (Nat.le_of_ble_eq_true rfl) ?_
    refine ce_if_eqB (tgt := 29) dX8_wine_22 (by decide) rfl (fun c_22 => ?_) (fun c_22 => ?_)
    · refine ce_iconst (v := nI (2)) dX8_wine_29 (by decide) ?_
      exfalso
      (try unfold ce_in at *)
      omega
    · refine ce_iconst (v := nI (0)) dX8_wine_25 (by decide) ?_
      refine ce_goto (tgt := 30) dX8_wine_26 (by decide) ?_
      refine ce_cVr dX8_wine_30 hX8_refused kRX8_115 (m_X8_refused0 d hD) rfl rfl hD.1 rfl (by decide) (Nat.le_of_ble_eq_true rfl) (fun rcg1 cg1 hcg1 => ?_)
      obtain ⟨ecg1, hcg1⟩ := hcg1
      have ecg1 : rcg1 = nI 0 := ecg1
      subst ecg1
      have Mcg1 : ce_rM cg1 d S := by rw [hcg1]; exact rM_ref hr
      have zcg1 : cg1 d 0 = nI 0 := by rw [hcg1]; exact ce_up_at _ _ _ _
      have ycg1 : ce_fr d (d + 11) g cg1 := fun x hx => by rw [hcg1]; exact ce_up_ne _ _ _ (by omega)
      refine ce_if_eqN (tgt := 38) dX8_wine_33 (by decide) rfl (by omega) (fun c_33 => ?_) (fun c_33 => ?_)
      · refine ce_iload_n dX8_wine_38 rfl ?_
        refine ce_tableOut (tgt := 126) dX8_wine_39 (by decide) (by decide) ?_
        refine ce_aload_n dX8_wine_126 rfl ?_
        refine ce_getR dX8_wine_127 fRX8_16 hD.1 hD.2.1.2.2.1 ?_
        refine ce_iload_n dX8_wine_130 rfl ?_
        refine ce_cSp dX8_wine_131 hX8_wineAt kRX8_62 (m_X8_wineAt (w)) rfl rfl (by decide) (Nat.le_of_ble_eq_true rfl) ?_
        refine ce_iload_n dX8_wine_134 rfl ?_
        refine ce_iadd (z := nI (21 + 6 * w + 3)) dX8_wine_135 (nI_add _ _) ?_
        refine ce_ialdv dX8_wine_136 (hD.2.2.2.2.1).1 rfl (hD.2.2.2.2.1).2 (by omega) (by decide) (((Mcg1.2.1).w3 (by omega)).trans (congrArg nI (by rw [kq_ne (by decide)]))) ?_
        refine ce_iret dX8_wine_137 rfl rfl (by decide) (by decide) ?_
        exact ⟨_, rfl, rfl, rfl, zcg1, Mcg1, ycg1⟩
      · omega
  · refine ce_iconst (v := nI (1)) dX8_wine_9 (by decide) ?_
    refine ce_goto (tgt := 30) dX8_wine_10 (by decide) ?_
    exfalso
    (try unfold ce_in at *)
    omega
set_option maxHeartbeats 2000000 in
set_option maxRecDepth 20000 in
theorem m_X8_wine_ok4 {σ : ce_S} {g : ce_D} (d : Nat) (S : ks_S) (hD : ce_LM σ d) (hr : ce_rM g d S) (ok : ks_ok S) (w : Nat) (hw : w < sK S 0 1) : ce_CT (ce_r 5) mX8_wine [.ref (d), .int (nI (w)), .int (nI (4))] σ g (ce_rv σ (fun z9 g1 => z9 = nI (kv_sum (sK S) 9 w) ∧ g1 d 0 = nI 0 ∧ ce_rM g1 d S ∧ ce_fr d (d + 11) g g1)) ce_no := by
  have hB := ok.1.i7
  have hM := ok.1.me
  have hW := ok.1.wi
  have hst := ok.1.st
  have q0 : kq (sK S) 0 = sK S 0 := kq_ne (by decide)
  have h00 : kq (sK S) 0 0 ≤ 6 := by rw [q0]; exact hM
  have h01 : kq (sK S) 0 1 ≤ 6 := by rw [q0]; exact hW
  have h02 : kq (sK S) 0 2 ≤ 8 := by rw [q0]; exact hB
  have eqC : ce_sum (kq (sK S) 12) (kq (sK S) 0 2) = ce_sum (sK S 9) 36 := by rw [kq_ne (a := 12) (by decide), q0]; exact kq_cel ok.1
  have eqE : kv_emp (kq (sK S)) (kq (sK S) 0 2) = kv_emp (sK S) (sK S 0 2) := by rw [kq_emp, q0]
  have eqR : ce_sum (fun b => kq (sK S) 11 b - kq (sK S) 12 b) (kq (sK S) 0 2) = ce_sum (fun b => (sK S) 11 b - (sK S) 12 b) (sK S 0 2) := by rw [kq_ne (a := 11) (by decide), kq_ne (a := 12) (by decide), q0]
  have ew := nI_toInt (n := w) (by omega)
  refine ce_enter (by decide) rfl (Nat.le_of_ble_eq_true rfl) (L := [some (.ref (d)), some (.int (nI (w))), some (.int (nI (4)))]) rfl ?_
  refine ce_aload_n dX8_wine_0 rfl ?_
  refine ce_aload_n dX8_wine_1 rfl ?_
  refine ce_iload_n dX8_wine_2 rfl ?_
  refine ce_cVp dX8_wine_3 hX8_isWine kRX8_182 (n_isWine d (sK S) (sO S) hD hr.2.1 (nI (w)) (by omega)) rfl rfl hD.1 rfl (by decide) (Nat.le_of_ble_eq_true rfl) ?_
  refine ce_if_neB (tgt := 13) dX8_wine_6 (by decide) rfl (fun c_6 => ?_) (fun c_6 => ?_)
  · refine ce_iload_n dX8_wine_13 rfl ?_
    refine ce_i2l (v := (nI (4)).toInt64) dX8_wine_14 rfl ?_
    refine ce_lconst (v := 0) dX8_wine_15 (by decide) ?_
    refine ce_ldc2 dX8_wine_16 kRX8_185 ?_
    refine ce_cSp dX8_wine_19 hX8_in kRX8_108 (m_X8_in ((nI (4)).toInt64) (0) (8) ((0 : Int) ≤ ((4 : Nat) : Int) ∧ ((4 : Nat) : Int) ≤ (8 : Int)) (cr_io ((cr_tl (nI (4))).trans (nI_toInt (by omega))) (by decide) (by decide))) rfl rfl (by decide) (Nat.le_of_ble_eq_true rfl) ?_
    refine ce_if_eqB (tgt := 29) dX8_wine_22 (by decide) rfl (fun c_22 => ?_) (fun c_22 => ?_)
    · refine ce_iconst (v := nI (2)) dX8_wine_29 (by decide) ?_
      exfalso
      (try unfold ce_in at *)
      omega
    · refine ce_iconst (v := nI (0)) dX8_wine_25 (by decide) ?_
      refine ce_goto (tgt := 30) dX8_wine_26 (by decide) ?_
      refine ce_cVr dX8_wine_30 hX8_refused kRX8_115 (m_X8_refused0 d hD) rfl rfl hD.1 rfl (by decide) (Nat.le_of_ble_eq_true rfl) (fun rcg1 cg1 hcg1 => ?_)
      obtain ⟨ecg1, hcg1⟩ := hcg1
      have ecg1 : rcg1 = nI 0 := ecg1
      subst ecg1
      have Mcg1 : ce_rM cg1 d S := by rw [hcg1]; exact rM_ref hr
      have zcg1 : cg1 d 0 = nI 0 := by rw [hcg1]; exact ce_up_at _ _ _ _
      have ycg1 : ce_fr d (d + 11) g cg1 := fun x hx => by rw [hcg1]; exact ce_up_ne _ _ _ (by omega)
      refine ce_if_eqN (tgt := 38) dX8_wine_33 (by decide) rfl (by omega) (fun c_33 => ?_) (fun c_33 => ?_)
      · refine ce_iload_n dX8_wine_38 rfl ?_
        refine ce_tableIn (off := 33) (tgt := 72) dX8_wine_39 (by decide) (by decide) (by decide) (by decide) ?_
        refine ce_aload_n dX8_wine_72 rfl ?_
        refine ce_getR dX8_wine_73 fRX8_16 hD.1 hD.2.1.2.2.1 ?_
        refine ce_iload_n dX8_wine_76 rfl ?_
        refine ce_iconst (v := nI (2)) dX8_wine_77 (by decide) ?_
        refine ce_cSp dX8_wine_78 hX8_allOf kRX8_95 ((show ce_sum (fun m => kq (sK S) 9 (m * 6 + w)) (kq (sK S) 0 0) = kv_sum (sK S) 9 w by rw [q0, kq_ne (a := 9) (by decide)]; exact kq_sum8 ok.1 (by decide) (by omega)) ▸ m_X8_allOf2 (d + 3) (kq (sK S)) (sO S) ⟨(hD.2.2.2.2.1).1, (hD.2.2.2.2.1).2⟩ Mcg1.2.1 (w) h00 (by omega)) rfl rfl (by decide) (Nat.le_of_ble_eq_true rfl) ?_
        refine ce_iret dX8_wine_81 rfl rfl (by decide) (by decide) ?_
        exact ⟨_, rfl, rfl, rfl, zcg1, Mcg1, ycg1⟩
      · omega
  · refine ce_iconst (v := nI (1)) dX8_wine_9 (by decide) ?_
    refine ce_goto (tgt := 30) dX8_wine_10 (by decide) ?_
    exfalso
    (try unfold ce_in at *)
    omega
set_option maxHeartbeats 2000000 in
set_option maxRecDepth 20000 in
theorem m_X8_wine_ok5 {σ : ce_S} {g : ce_D} (d : Nat) (S : ks_S) (hD : ce_LM σ d) (hr : ce_rM g d S) (ok : ks_ok S) (w : Nat) (hw : w < sK S 0 1) : ce_CT (ce_r 5) mX8_wine [.ref (d), .int (nI (w)), .int (nI (5))] σ g (ce_rv σ (fun z9 g1 => z9 = nI (kv_sum (sK S) 10 w) ∧ g1 d 0 = nI 0 ∧ ce_rM g1 d S ∧ ce_fr d (d + 11) g g1)) ce_no := by
  have hB := ok.1.i7
  have hM := ok.1.me
  have hW := ok.1.wi
  have hst := ok.1.st
  have q0 : kq (sK S) 0 = sK S 0 := kq_ne (by decide)
  have h00 : kq (sK S) 0 0 ≤ 6 := by rw [q0]; exact hM
  have h01 : kq (sK S) 0 1 ≤ 6 := by rw [q0]; exact hW
  have h02 : kq (sK S) 0 2 ≤ 8 := by rw [q0]; exact hB
  have eqC : ce_sum (kq (sK S) 12) (kq (sK S) 0 2) = ce_sum (sK S 9) 36 := by rw [kq_ne (a := 12) (by decide), q0]; exact kq_cel ok.1
  have eqE : kv_emp (kq (sK S)) (kq (sK S) 0 2) = kv_emp (sK S) (sK S 0 2) := by rw [kq_emp, q0]
  have eqR : ce_sum (fun b => kq (sK S) 11 b - kq (sK S) 12 b) (kq (sK S) 0 2) = ce_sum (fun b => (sK S) 11 b - (sK S) 12 b) (sK S 0 2) := by rw [kq_ne (a := 11) (by decide), kq_ne (a := 12) (by decide), q0]
  have ew := nI_toInt (n := w) (by omega)
  refine ce_enter (by decide) rfl (Nat.le_of_ble_eq_true rfl) (L := [some (.ref (d)), some (.int (nI (w))), some (.int (nI (5)))]) rfl ?_
  refine ce_aload_n dX8_wine_0 rfl ?_
  refine ce_aload_n dX8_wine_1 rfl ?_
  refine ce_iload_n dX8_wine_2 rfl ?_
  refine ce_cVp dX8_wine_3 hX8_isWine kRX8_182 (n_isWine d (sK S) (sO S) hD hr.2.1 (nI (w)) (by omega)) rfl rfl hD.1 rfl (by decide) (Nat.le_of_ble_eq_true rfl) ?_
  refine ce_if_neB (tgt := 13) dX8_wine_6 (by decide) rfl (fun c_6 => ?_) (fun c_6 => ?_)
  · refine ce_iload_n dX8_wine_13 rfl ?_
    refine ce_i2l (v := (nI (5)).toInt64) dX8_wine_14 rfl ?_
    refine ce_lconst (v := 0) dX8_wine_15 (by decide) ?_
    refine ce_ldc2 dX8_wine_16 kRX8_185 ?_
    refine ce_cSp dX8_wine_19 hX8_in kRX8_108 (m_X8_in ((nI (5)).toInt64) (0) (8) ((0 : Int) ≤ ((5 : Nat) : Int) ∧ ((5 : Nat) : Int) ≤ (8 : Int)) (cr_io ((cr_tl (nI (5))).trans (nI_toInt (by omega))) (by decide) (by decide))) rfl rfl (by decide) (Nat.le_of_ble_eq_true rfl) ?_
    refine ce_if_eqB (tgt := 29) dX8_wine_22 (by decide) rfl (fun c_22 => ?_) (fun c_22 => ?_)
    · refine ce_iconst (v := nI (2)) dX8_wine_29 (by decide) ?_
      exfalso
      (try unfold ce_in at *)
      omega
    · refine ce_iconst (v := nI (0)) dX8_wine_25 (by decide) ?_
      refine ce_goto (tgt := 30) dX8_wine_26 (by decide) ?_
      refine ce_cVr dX8_wine_30 hX8_refused kRX8_115 (m_X8_refused0 d hD) rfl rfl hD.1 rfl (by decide) (Nat.le_of_ble_eq_true rfl) (fun rcg1 cg1 hcg1 => ?_)
      obtain ⟨ecg1, hcg1⟩ := hcg1
      have ecg1 : rcg1 = nI 0 := ecg1
      subst ecg1
      have Mcg1 : ce_rM cg1 d S := by rw [hcg1]; exact rM_ref hr
      have zcg1 : cg1 d 0 = nI 0 := by rw [hcg1]; exact ce_up_at _ _ _ _
      have ycg1 : ce_fr d (d + 11) g cg1 := fun x hx => by rw [hcg1]; exact ce_up_ne _ _ _ (by omega)
      refine ce_if_eqN (tgt := 38) dX8_wine_33 (by decide) rfl (by omega) (fun c_33 => ?_) (fun c_33 => ?_)
      · refine ce_iload_n dX8_wine_38 rfl ?_
        refine ce_tableIn (off := 43) (tgt := 82) dX8_wine_39 (by decide) (by decide) (by decide) (by decide) ?_
        refine ce_aload_n dX8_wine_82 rfl ?_
        refine ce_getR dX8_wine_83 fRX8_16 hD.1 hD.2.1.2.2.1 ?_
        refine ce_iload_n dX8_wine_86 rfl ?_
        refine ce_cSp dX8_wine_87 hX8_wineAt kRX8_62 (m_X8_wineAt (w)) rfl rfl (by decide) (Nat.le_of_ble_eq_true rfl) ?_
        refine ce_iconst (v := nI (4)) dX8_wine_90 (by decide) ?_
        refine ce_iadd (z := nI (21 + 6 * w + 4)) dX8_wine_91 (nI_add _ _) ?_
        refine ce_ialdv dX8_wine_92 (hD.2.2.2.2.1).1 rfl (hD.2.2.2.2.1).2 (by omega) (by decide) ((Mcg1.2.1).w4 (by omega)) ?_
        refine ce_iret dX8_wine_93 rfl rfl (by decide) (by decide) ?_
        exact ⟨_, rfl, rfl, congrArg nI kq_15, zcg1, Mcg1, ycg1⟩
      · omega
  · refine ce_iconst (v := nI (1)) dX8_wine_9 (by decide) ?_
    refine ce_goto (tgt := 30) dX8_wine_10 (by decide) ?_
    exfalso
    (try unfold ce_in at *)
    omega
set_option maxHeartbeats 2000000 in
set_option maxRecDepth 20000 in
theorem m_X8_wine_ok6 {σ : ce_S} {g : ce_D} (d : Nat) (S : ks_S) (hD : ce_LM σ d) (hr : ce_rM g d S) (ok : ks_ok S) (w : Nat) (hw : w < sK S 0 1) : ce_CT (ce_r 5) mX8_wine [.ref (d), .int (nI (w)), .int (nI (6))] σ g (ce_rv σ (fun z9 g1 => z9 = nI (sK S 6 w) ∧ g1 d 0 = nI 0 ∧ ce_rM g1 d S ∧ ce_fr d (d + 11) g g1)) ce_no := by
  have hB := ok.1.i7
  have hM := ok.1.me
  have hW := ok.1.wi
  have hst := ok.1.st
  have q0 : kq (sK S) 0 = sK S 0 := kq_ne (by decide)
  have h00 : kq (sK S) 0 0 ≤ 6 := by rw [q0]; exact hM
  have h01 : kq (sK S) 0 1 ≤ 6 := by rw [q0]; exact hW
  have h02 : kq (sK S) 0 2 ≤ 8 := by rw [q0]; exact hB
  have eqC : ce_sum (kq (sK S) 12) (kq (sK S) 0 2) = ce_sum (sK S 9) 36 := by rw [kq_ne (a := 12) (by decide), q0]; exact kq_cel ok.1
  have eqE : kv_emp (kq (sK S)) (kq (sK S) 0 2) = kv_emp (sK S) (sK S 0 2) := by rw [kq_emp, q0]
  have eqR : ce_sum (fun b => kq (sK S) 11 b - kq (sK S) 12 b) (kq (sK S) 0 2) = ce_sum (fun b => (sK S) 11 b - (sK S) 12 b) (sK S 0 2) := by rw [kq_ne (a := 11) (by decide), kq_ne (a := 12) (by decide), q0]
  have ew := nI_toInt (n := w) (by omega)
  refine ce_enter (by decide) rfl (Nat.le_of_ble_eq_true rfl) (L := [some (.ref (d)), some (.int (nI (w))), some (.int (nI (6)))]) rfl ?_
  refine ce_aload_n dX8_wine_0 rfl ?_
  refine ce_aload_n dX8_wine_1 rfl ?_
  refine ce_iload_n dX8_wine_2 rfl ?_
  refine ce_cVp dX8_wine_3 hX8_isWine kRX8_182 (n_isWine d (sK S) (sO S) hD hr.2.1 (nI (w)) (by omega)) rfl rfl hD.1 rfl (by decide) (Nat.le_of_ble_eq_true rfl) ?_
  refine ce_if_neB (tgt := 13) dX8_wine_6 (by decide) rfl (fun c_6 => ?_) (fun c_6 => ?_)
  · refine ce_iload_n dX8_wine_13 rfl ?_
    refine ce_i2l (v := (nI (6)).toInt64) dX8_wine_14 rfl ?_
    refine ce_lconst (v := 0) dX8_wine_15 (by decide) ?_
    refine ce_ldc2 dX8_wine_16 kRX8_185 ?_
    refine ce_cSp dX8_wine_19 hX8_in kRX8_108 (m_X8_in ((nI (6)).toInt64) (0) (8) ((0 : Int) ≤ ((6 : Nat) : Int) ∧ ((6 : Nat) : Int) ≤ (8 : Int)) (cr_io ((cr_tl (nI (6))).trans (nI_toInt (by omega))) (by decide) (by decide))) rfl rfl (by decide) (Nat.le_of_ble_eq_true rfl) ?_
    refine ce_if_eqB (tgt := 29) dX8_wine_22 (by decide) rfl (fun c_22 => ?_) (fun c_22 => ?_)
    · refine ce_iconst (v := nI (2)) dX8_wine_29 (by decide) ?_
      exfalso
      (try unfold ce_in at *)
      omega
    · refine ce_iconst (v := nI (0)) dX8_wine_25 (by decide) ?_
      refine ce_goto (tgt := 30) dX8_wine_26 (by decide) ?_
      refine ce_cVr dX8_wine_30 hX8_refused kRX8_115 (m_X8_refused0 d hD) rfl rfl hD.1 rfl (by decide) (Nat.le_of_ble_eq_true rfl) (fun rcg1 cg1 hcg1 => ?_)
      obtain ⟨ecg1, hcg1⟩ := hcg1
      have ecg1 : rcg1 = nI 0 := ecg1
      subst ecg1
      have Mcg1 : ce_rM cg1 d S := by rw [hcg1]; exact rM_ref hr
      have zcg1 : cg1 d 0 = nI 0 := by rw [hcg1]; exact ce_up_at _ _ _ _
      have ycg1 : ce_fr d (d + 11) g cg1 := fun x hx => by rw [hcg1]; exact ce_up_ne _ _ _ (by omega)
      refine ce_if_eqN (tgt := 38) dX8_wine_33 (by decide) rfl (by omega) (fun c_33 => ?_) (fun c_33 => ?_)
      · refine ce_iload_n dX8_wine_38 rfl ?_
        refine ce_tableIn (off := 55) (tgt := 94) dX8_wine_39 (by decide) (by decide) (by decide) (by decide) ?_
        refine ce_aload_n dX8_wine_94 rfl ?_
        refine ce_getR dX8_wine_95 fRX8_16 hD.1 hD.2.1.2.2.1 ?_
        refine ce_iload_n dX8_wine_98 rfl ?_
        refine ce_cSp dX8_wine_99 hX8_wineAt kRX8_62 (m_X8_wineAt (w)) rfl rfl (by decide) (Nat.le_of_ble_eq_true rfl) ?_
        refine ce_iconst (v := nI (5)) dX8_wine_102 (by decide) ?_
        refine ce_iadd (z := nI (21 + 6 * w + 5)) dX8_wine_103 (nI_add _ _) ?_
        refine ce_ialdv dX8_wine_104 (hD.2.2.2.2.1).1 rfl (hD.2.2.2.2.1).2 (by omega) (by decide) (((Mcg1.2.1).w5 (by omega)).trans (congrArg nI (by rw [kq_ne (by decide)]))) ?_
        refine ce_iret dX8_wine_105 rfl rfl (by decide) (by decide) ?_
        exact ⟨_, rfl, rfl, rfl, zcg1, Mcg1, ycg1⟩
      · omega
  · refine ce_iconst (v := nI (1)) dX8_wine_9 (by decide) ?_
    refine ce_goto (tgt := 30) dX8_wine_10 (by decide) ?_
    exfalso
    (try unfold ce_in at *)
    omega
set_option maxHeartbeats 2000000 in
set_option maxRecDepth 20000 in
theorem m_X8_wine_ok7 {σ : ce_S} {g : ce_D} (d : Nat) (S : ks_S) (hD : ce_LM σ d) (hr : ce_rM g d S) (ok : ks_ok S) (w : Nat) (hw : w < sK S 0 1) : ce_CT (ce_r 5) mX8_wine [.ref (d), .int (nI (w)), .int (nI (7))] σ g (ce_rv σ (fun z9 g1 => z9 = nI (kv_sum (sK S) 8 w) ∧ g1 d 0 = nI 0 ∧ ce_rM g1 d S ∧ ce_fr d (d + 11) g g1)) ce_no := by
  have hB := ok.1.i7
  have hM := ok.1.me
  have hW := ok.1.wi
  have hst := ok.1.st
  have q0 : kq (sK S) 0 = sK S 0 := kq_ne (by decide)
  have h00 : kq (sK S) 0 0 ≤ 6 := by rw [q0]; exact hM
  have h01 : kq (sK S) 0 1 ≤ 6 := by rw [q0]; exact hW
  have h02 : kq (sK S) 0 2 ≤ 8 := by rw [q0]; exact hB
  have eqC : ce_sum (kq (sK S) 12) (kq (sK S) 0 2) = ce_sum (sK S 9) 36 := by rw [kq_ne (a := 12) (by decide), q0]; exact kq_cel ok.1
  have eqE : kv_emp (kq (sK S)) (kq (sK S) 0 2) = kv_emp (sK S) (sK S 0 2) := by rw [kq_emp, q0]
  have eqR : ce_sum (fun b => kq (sK S) 11 b - kq (sK S) 12 b) (kq (sK S) 0 2) = ce_sum (fun b => (sK S) 11 b - (sK S) 12 b) (sK S 0 2) := by rw [kq_ne (a := 11) (by decide), kq_ne (a := 12) (by decide), q0]
  have ew := nI_toInt (n := w) (by omega)
  refine ce_enter (by decide) rfl (Nat.le_of_ble_eq_true rfl) (L := [some (.ref (d)), some (.int (nI (w))), some (.int (nI (7)))]) rfl ?_
  refine ce_aload_n dX8_wine_0 rfl ?_
  refine ce_aload_n dX8_wine_1 rfl ?_
  refine ce_iload_n dX8_wine_2 rfl ?_
  refine ce_cVp dX8_wine_3 hX8_isWine kRX8_182 (n_isWine d (sK S) (sO S) hD hr.2.1 (nI (w)) (by omega)) rfl rfl hD.1 rfl (by decide) (Nat.le_of_ble_eq_true rfl) ?_
  refine ce_if_neB (tgt := 13) dX8_wine_6 (by decide) rfl (fun c_6 => ?_) (fun c_6 => ?_)
  · refine ce_iload_n dX8_wine_13 rfl ?_
    refine ce_i2l (v := (nI (7)).toInt64) dX8_wine_14 rfl ?_
    refine ce_lconst (v := 0) dX8_wine_15 (by decide) ?_
    refine ce_ldc2 dX8_wine_16 kRX8_185 ?_
    refine ce_cSp dX8_wine_19 hX8_in kRX8_108 (m_X8_in ((nI (7)).toInt64) (0) (8) ((0 : Int) ≤ ((7 : Nat) : Int) ∧ ((7 : Nat) : Int) ≤ (8 : Int)) (cr_io ((cr_tl (nI (7))).trans (nI_toInt (by omega))) (by decide) (by decide))) rfl rfl (by decide) (Nat.le_of_ble_eq_true rfl) ?_
    refine ce_if_eqB (tgt := 29) dX8_wine_22 (by decide) rfl (fun c_22 => ?_) (fun c_22 => ?_)
    · refine ce_iconst (v := nI (2)) dX8_wine_29 (by decide) ?_
      exfalso
      (try unfold ce_in at *)
      omega
    · refine ce_iconst (v := nI (0)) dX8_wine_25 (by decide) ?_
      refine ce_goto (tgt := 30) dX8_wine_26 (by decide) ?_
      refine ce_cVr dX8_wine_30 hX8_refused kRX8_115 (m_X8_refused0 d hD) rfl rfl hD.1 rfl (by decide) (Nat.le_of_ble_eq_true rfl) (fun rcg1 cg1 hcg1 => ?_)
      obtain ⟨ecg1, hcg1⟩ := hcg1
      have ecg1 : rcg1 = nI 0 := ecg1
      subst ecg1
      have Mcg1 : ce_rM cg1 d S := by rw [hcg1]; exact rM_ref hr
      have zcg1 : cg1 d 0 = nI 0 := by rw [hcg1]; exact ce_up_at _ _ _ _
      have ycg1 : ce_fr d (d + 11) g cg1 := fun x hx => by rw [hcg1]; exact ce_up_ne _ _ _ (by omega)
      refine ce_if_eqN (tgt := 38) dX8_wine_33 (by decide) rfl (by omega) (fun c_33 => ?_) (fun c_33 => ?_)
      · refine ce_iload_n dX8_wine_38 rfl ?_
        refine ce_tableIn (off := 67) (tgt := 106) dX8_wine_39 (by decide) (by decide) (by decide) (by decide) ?_
        refine ce_aload_n dX8_wine_106 rfl ?_
        refine ce_getR dX8_wine_107 fRX8_16 hD.1 hD.2.1.2.2.1 ?_
        refine ce_iload_n dX8_wine_110 rfl ?_
        refine ce_iconst (v := nI (1)) dX8_wine_111 (by decide) ?_
        refine ce_cSp dX8_wine_112 hX8_allOf kRX8_95 ((show ce_sum (fun m => kq (sK S) 8 (m * 6 + w)) (kq (sK S) 0 0) = kv_sum (sK S) 8 w by rw [q0, kq_ne (a := 8) (by decide)]; exact kq_sum8 ok.1 (by decide) (by omega)) ▸ m_X8_allOf1 (d + 3) (kq (sK S)) (sO S) ⟨(hD.2.2.2.2.1).1, (hD.2.2.2.2.1).2⟩ Mcg1.2.1 (w) h00 (by omega)) rfl rfl (by decide) (Nat.le_of_ble_eq_true rfl) ?_
        refine ce_iret dX8_wine_115 rfl rfl (by decide) (by decide) ?_
        exact ⟨_, rfl, rfl, rfl, zcg1, Mcg1, ycg1⟩
      · omega
  · refine ce_iconst (v := nI (1)) dX8_wine_9 (by decide) ?_
    refine ce_goto (tgt := 30) dX8_wine_10 (by decide) ?_
    exfalso
    (try unfold ce_in at *)
    omega
set_option maxHeartbeats 2000000 in
set_option maxRecDepth 20000 in
theorem m_X8_wine_ok8 {σ : ce_S} {g : ce_D} (d : Nat) (S : ks_S) (hD : ce_LM σ d) (hr : ce_rM g d S) (ok : ks_ok S) (w : Nat) (hw : w < sK S 0 1) : ce_CT (ce_r 5) mX8_wine [.ref (d), .int (nI (w)), .int (nI (8))] σ g (ce_rv σ (fun z9 g1 => z9 = nI (kv_sum (sK S) 7 w) ∧ g1 d 0 = nI 0 ∧ ce_rM g1 d S ∧ ce_fr d (d + 11) g g1)) ce_no := by
  have hB := ok.1.i7
  have hM := ok.1.me
  have hW := ok.1.wi
  have hst := ok.1.st
  have q0 : kq (sK S) 0 = sK S 0 := kq_ne (by decide)
  have h00 : kq (sK S) 0 0 ≤ 6 := by rw [q0]; exact hM
  have h01 : kq (sK S) 0 1 ≤ 6 := by rw [q0]; exact hW
  have h02 : kq (sK S) 0 2 ≤ 8 := by rw [q0]; exact hB
  have eqC : ce_sum (kq (sK S) 12) (kq (sK S) 0 2) = ce_sum (sK S 9) 36 := by rw [kq_ne (a := 12) (by decide), q0]; exact kq_cel ok.1
  have eqE : kv_emp (kq (sK S)) (kq (sK S) 0 2) = kv_emp (sK S) (sK S 0 2) := by rw [kq_emp, q0]
  have eqR : ce_sum (fun b => kq (sK S) 11 b - kq (sK S) 12 b) (kq (sK S) 0 2) = ce_sum (fun b => (sK S) 11 b - (sK S) 12 b) (sK S 0 2) := by rw [kq_ne (a := 11) (by decide), kq_ne (a := 12) (by decide), q0]
  have ew := nI_toInt (n := w) (by omega)
  refine ce_enter (by decide) rfl (Nat.le_of_ble_eq_true rfl) (L := [some (.ref (d)), some (.int (nI (w))), some (.int (nI (8)))]) rfl ?_
  refine ce_aload_n dX8_wine_0 rfl ?_
  refine ce_aload_n dX8_wine_1 rfl ?_
  refine ce_iload_n dX8_wine_2 rfl ?_
  refine ce_cVp dX8_wine_3 hX8_isWine kRX8_182 (n_isWine d (sK S) (sO S) hD hr.2.1 (nI (w)) (by omega)) rfl rfl hD.1 rfl (by decide) (Nat.le_of_ble_eq_true rfl) ?_
  refine ce_if_neB (tgt := 13) dX8_wine_6 (by decide) rfl (fun c_6 => ?_) (fun c_6 => ?_)
  · refine ce_iload_n dX8_wine_13 rfl ?_
    refine ce_i2l (v := (nI (8)).toInt64) dX8_wine_14 rfl ?_
    refine ce_lconst (v := 0) dX8_wine_15 (by decide) ?_
    refine ce_ldc2 dX8_wine_16 kRX8_185 ?_
    refine ce_cSp dX8_wine_19 hX8_in kRX8_108 (m_X8_in ((nI (8)).toInt64) (0) (8) ((0 : Int) ≤ ((8 : Nat) : Int) ∧ ((8 : Nat) : Int) ≤ (8 : Int)) (cr_io ((cr_tl (nI (8))).trans (nI_toInt (by omega))) (by decide) (by decide))) rfl rfl (by decide) (Nat.le_of_ble_eq_true rfl) ?_
    refine ce_if_eqB (tgt := 29) dX8_wine_22 (by decide) rfl (fun c_22 => ?_) (fun c_22 => ?_)
    · refine ce_iconst (v := nI (2)) dX8_wine_29 (by decide) ?_
      exfalso
      (try unfold ce_in at *)
      omega
    · refine ce_iconst (v := nI (0)) dX8_wine_25 (by decide) ?_
      refine ce_goto (tgt := 30) dX8_wine_26 (by decide) ?_
      refine ce_cVr dX8_wine_30 hX8_refused kRX8_115 (m_X8_refused0 d hD) rfl rfl hD.1 rfl (by decide) (Nat.le_of_ble_eq_true rfl) (fun rcg1 cg1 hcg1 => ?_)
      obtain ⟨ecg1, hcg1⟩ := hcg1
      have ecg1 : rcg1 = nI 0 := ecg1
      subst ecg1
      have Mcg1 : ce_rM cg1 d S := by rw [hcg1]; exact rM_ref hr
      have zcg1 : cg1 d 0 = nI 0 := by rw [hcg1]; exact ce_up_at _ _ _ _
      have ycg1 : ce_fr d (d + 11) g cg1 := fun x hx => by rw [hcg1]; exact ce_up_ne _ _ _ (by omega)
      refine ce_if_eqN (tgt := 38) dX8_wine_33 (by decide) rfl (by omega) (fun c_33 => ?_) (fun c_33 => ?_)
      · refine ce_iload_n dX8_wine_38 rfl ?_
        refine ce_tableIn (off := 77) (tgt := 116) dX8_wine_39 (by decide) (by decide) (by decide) (by decide) ?_
        refine ce_aload_n dX8_wine_116 rfl ?_
        refine ce_getR dX8_wine_117 fRX8_16 hD.1 hD.2.1.2.2.1 ?_
        refine ce_iload_n dX8_wine_120 rfl ?_
        refine ce_iconst (v := nI (0)) dX8_wine_121 (by decide) ?_
        refine ce_cSp dX8_wine_122 hX8_allOf kRX8_95 ((show ce_sum (fun m => kq (sK S) 7 (m * 6 + w)) (kq (sK S) 0 0) = kv_sum (sK S) 7 w by rw [q0, kq_ne (a := 7) (by decide)]; exact kq_sum8 ok.1 (by decide) (by omega)) ▸ m_X8_allOf0 (d + 3) (kq (sK S)) (sO S) ⟨(hD.2.2.2.2.1).1, (hD.2.2.2.2.1).2⟩ Mcg1.2.1 (w) h00 (by omega)) rfl rfl (by decide) (Nat.le_of_ble_eq_true rfl) ?_
        refine ce_iret dX8_wine_125 rfl rfl (by decide) (by decide) ?_
        exact ⟨_, rfl, rfl, rfl, zcg1, Mcg1, ycg1⟩
      · omega
  · refine ce_iconst (v := nI (1)) dX8_wine_9 (by decide) ?_
    refine ce_goto (tgt := 30) dX8_wine_10 (by decide) ?_
    exfalso
    (try unfold ce_in at *)
    omega
set_option maxHeartbeats 2000000 in
set_option maxRecDepth 20000 in
theorem m_X8_bin_ok0 {σ : ce_S} {g : ce_D} (d : Nat) (S : ks_S) (hD : ce_LM σ d) (hr : ce_rM g d S) (ok : ks_ok S) (b : Nat) (hb : b < sK S 0 2) : ce_CT (ce_r 5) mX8_bin [.ref (d), .int (nI (b)), .int (nI (0))] σ g (ce_rv σ (fun z9 g1 => z9 = nI (sK S 11 b) ∧ g1 d 0 = nI 0 ∧ ce_rM g1 d S ∧ ce_fr d (d + 11) g g1)) ce_no := by
  have hB := ok.1.i7
  have hM := ok.1.me
  have hW := ok.1.wi
  have hst := ok.1.st
  have q0 : kq (sK S) 0 = sK S 0 := kq_ne (by decide)
  have h00 : kq (sK S) 0 0 ≤ 6 := by rw [q0]; exact hM
  have h01 : kq (sK S) 0 1 ≤ 6 := by rw [q0]; exact hW
  have h02 : kq (sK S) 0 2 ≤ 8 := by rw [q0]; exact hB
  have eqC : ce_sum (kq (sK S) 12) (kq (sK S) 0 2) = ce_sum (sK S 9) 36 := by rw [kq_ne (a := 12) (by decide), q0]; exact kq_cel ok.1
  have eqE : kv_emp (kq (sK S)) (kq (sK S) 0 2) = kv_emp (sK S) (sK S 0 2) := by rw [kq_emp, q0]
  have eqR : ce_sum (fun b => kq (sK S) 11 b - kq (sK S) 12 b) (kq (sK S) 0 2) = ce_sum (fun b => (sK S) 11 b - (sK S) 12 b) (sK S 0 2) := by rw [kq_ne (a := 11) (by decide), kq_ne (a := 12) (by decide), q0]
  have eb := nI_toInt (n := b) (by omega)
  have hb13 := ok.1.rk.2.2.2.1 b
  have hb12 := ok.1.rk.2.1 b
  refine ce_enter (by decide) rfl (Nat.le_of_ble_eq_true rfl) (L := [some (.ref (d)), some (.int (nI (b))), some (.int (nI (0)))]) rfl ?_
  refine ce_aload_n dX8_bin_0 rfl ?_
  refine ce_aload_n dX8_bin_1 rfl ?_
  refine ce_iload_n dX8_bin_2 rfl ?_
  refine ce_cVp dX8_bin_3 hX8_isBin kRX8_187 (n_isBin d (sK S) (sO S) hD hr.2.1 (nI (b)) (by omega)) rfl rfl hD.1 rfl (by decide) (Nat.le_of_ble_eq_true rfl) ?_
  refine ce_if_neB (tgt := 13) dX8_bin_6 (by decide) rfl (fun c_6 => ?_) (fun c_6 => ?_)
  · refine ce_iload_n dX8_bin_13 rfl ?_
    refine ce_i2l (v := (nI (0)).toInt64) dX8_bin_14 rfl ?_
    refine ce_lconst (v := 0) dX8_bin_15 (by decide) ?_
    refine ce_ldc2 dX8_bin_16 kRX8_190 ?_
    refine ce_cSp dX8_bin_19 hX8_in kRX8_108 (m_X8_in ((nI (0)).toInt64) (0) (2) ((0 : Int) ≤ ((0 : Nat) : Int) ∧ ((0 : Nat) : Int) ≤ (2 : Int)) (cr_io ((cr_tl (nI (0))).trans (nI_toInt (by omega))) (by decide) (by decide))) rfl rfl (by decide) (Nat.le_of_ble_eq_true rfl) ?_
    refine ce_if_eqB (tgt := 29) dX8_bin_22 (by decide) rfl (fun c_22 => ?_) (fun c_22 => ?_)
    · refine ce_iconst (v := nI (2)) dX8_bin_29 (by decide) ?_
      exfalso
      (try unfold ce_in at *)
      omega
    · refine ce_iconst (v := nI (0)) dX8_bin_25 (by decide) ?_
      refine ce_goto (tgt := 30) dX8_bin_26 (by decide) ?_
      refine ce_cVr dX8_bin_30 hX8_refused kRX8_115 (m_X8_refused0 d hD) rfl rfl hD.1 rfl (by decide) (Nat.le_of_ble_eq_true rfl) (fun rcg1 cg1 hcg1 => ?_)
      obtain ⟨ecg1, hcg1⟩ := hcg1
      have ecg1 : rcg1 = nI 0 := ecg1
      subst ecg1
      have Mcg1 : ce_rM cg1 d S := by rw [hcg1]; exact rM_ref hr
      have zcg1 : cg1 d 0 = nI 0 := by rw [hcg1]; exact ce_up_at _ _ _ _
      have ycg1 : ce_fr d (d + 11) g cg1 := fun x hx => by rw [hcg1]; exact ce_up_ne _ _ _ (by omega)
      refine ce_if_eqN (tgt := 38) dX8_bin_33 (by decide) rfl (by omega) (fun c_33 => ?_) (fun c_33 => ?_)
      · refine ce_iload_n dX8_bin_38 rfl ?_
        refine ce_iconst (v := nI (1)) dX8_bin_39 (by decide) ?_
        refine ce_icmp_eqN (tgt := 57) dX8_bin_40 (by decide) rfl rfl (by omega) (by omega) (fun c_40 => ?_) (fun c_40 => ?_)
        · omega
        · refine ce_aload_n dX8_bin_43 rfl ?_
          refine ce_getR dX8_bin_44 fRX8_16 hD.1 hD.2.1.2.2.1 ?_
          refine ce_iload_n dX8_bin_47 rfl ?_
          refine ce_cSp dX8_bin_48 hX8_binAt kRX8_58 (m_X8_binAt (b)) rfl rfl (by decide) (Nat.le_of_ble_eq_true rfl) ?_
          refine ce_iload_n dX8_bin_51 rfl ?_
          refine ce_iadd (z := nI (57 + 3 * b + 0)) dX8_bin_52 (nI_add _ _) ?_
          refine ce_ialdv dX8_bin_53 (hD.2.2.2.2.1).1 rfl (hD.2.2.2.2.1).2 (by omega) (by decide) (((Mcg1.2.1).b0 (by omega)).trans (congrArg nI (by rw [kq_ne (by decide)]))) ?_
          refine ce_goto (tgt := 89) dX8_bin_54 (by decide) ?_
          refine ce_iret dX8_bin_89 rfl rfl (by decide) (by decide) ?_
          exact ⟨_, rfl, rfl, rfl, zcg1, Mcg1, ycg1⟩
      · omega
  · refine ce_iconst (v := nI (1)) dX8_bin_9 (by decide) ?_
    refine ce_goto (tgt := 30) dX8_bin_10 (by decide) ?_
    exfalso
    (try unfold ce_in at *)
    omega
set_option maxHeartbeats 2000000 in
set_option maxRecDepth 20000 in
theorem m_X8_bin_ok1 {σ : ce_S} {g : ce_D} (d : Nat) (S : ks_S) (hD : ce_LM σ d) (hr : ce_rM g d S) (ok : ks_ok S) (b : Nat) (hb : b < sK S 0 2) : ce_CT (ce_r 5) mX8_bin [.ref (d), .int (nI (b)), .int (nI (1))] σ g (ce_rv σ (fun z9 g1 => z9 = ce_wi (sK S) b ∧ g1 d 0 = nI 0 ∧ ce_rM g1 d S ∧ ce_fr d (d + 11) g g1)) ce_no := by
  have hB := ok.1.i7
  have hM := ok.1.me
  have hW := ok.1.wi
  have hst := ok.1.st
  have q0 : kq (sK S) 0 = sK S 0 := kq_ne (by decide)
  have h00 : kq (sK S) 0 0 ≤ 6 := by rw [q0]; exact hM
  have h01 : kq (sK S) 0 1 ≤ 6 := by rw [q0]; exact hW
  have h02 : kq (sK S) 0 2 ≤ 8 := by rw [q0]; exact hB
  have eqC : ce_sum (kq (sK S) 12) (kq (sK S) 0 2) = ce_sum (sK S 9) 36 := by rw [kq_ne (a := 12) (by decide), q0]; exact kq_cel ok.1
  have eqE : kv_emp (kq (sK S)) (kq (sK S) 0 2) = kv_emp (sK S) (sK S 0 2) := by rw [kq_emp, q0]
  have eqR : ce_sum (fun b => kq (sK S) 11 b - kq (sK S) 12 b) (kq (sK S) 0 2) = ce_sum (fun b => (sK S) 11 b - (sK S) 12 b) (sK S 0 2) := by rw [kq_ne (a := 11) (by decide), kq_ne (a := 12) (by decide), q0]
  have eb := nI_toInt (n := b) (by omega)
  have hb13 := ok.1.rk.2.2.2.1 b
  have hb12 := ok.1.rk.2.1 b
  refine ce_enter (by decide) rfl (Nat.le_of_ble_eq_true rfl) (L := [some (.ref (d)), some (.int (nI (b))), some (.int (nI (1)))]) rfl ?_
  refine ce_aload_n dX8_bin_0 rfl ?_
  refine ce_aload_n dX8_bin_1 rfl ?_
  refine ce_iload_n dX8_bin_2 rfl ?_
  refine ce_cVp dX8_bin_3 hX8_isBin kRX8_187 (n_isBin d (sK S) (sO S) hD hr.2.1 (nI (b)) (by omega)) rfl rfl hD.1 rfl (by decide) (Nat.le_of_ble_eq_true rfl) ?_
  refine ce_if_neB (tgt := 13) dX8_bin_6 (by decide) rfl (fun c_6 => ?_) (fun c_6 => ?_)
  · refine ce_iload_n dX8_bin_13 rfl ?_
    refine ce_i2l (v := (nI (1)).toInt64) dX8_bin_14 rfl ?_
    refine ce_lconst (v := 0) dX8_bin_15 (by decide) ?_
    refine ce_ldc2 dX8_bin_16 kRX8_190 ?_
    refine ce_cSp dX8_bin_19 hX8_in kRX8_108 (m_X8_in ((nI (1)).toInt64) (0) (2) ((0 : Int) ≤ ((1 : Nat) : Int) ∧ ((1 : Nat) : Int) ≤ (2 : Int)) (cr_io ((cr_tl (nI (1))).trans (nI_toInt (by omega))) (by decide) (by decide))) rfl rfl (by decide) (Nat.le_of_ble_eq_true rfl) ?_
    refine ce_if_eqB (tgt := 29) dX8_bin_22 (by decide) rfl (fun c_22 => ?_) (fun c_22 => ?_)
    · refine ce_iconst (v := nI (2)) dX8_bin_29 (by decide) ?_
      exfalso
      (try unfold ce_in at *)
      omega
    · refine ce_iconst (v := nI (0)) dX8_bin_25 (by decide) ?_
      refine ce_goto (tgt := 30) dX8_bin_26 (by decide) ?_
      refine ce_cVr dX8_bin_30 hX8_refused kRX8_115 (m_X8_refused0 d hD) rfl rfl hD.1 rfl (by decide) (Nat.le_of_ble_eq_true rfl) (fun rcg1 cg1 hcg1 => ?_)
      obtain ⟨ecg1, hcg1⟩ := hcg1
      have ecg1 : rcg1 = nI 0 := ecg1
      subst ecg1
      have Mcg1 : ce_rM cg1 d S := by rw [hcg1]; exact rM_ref hr
      have zcg1 : cg1 d 0 = nI 0 := by rw [hcg1]; exact ce_up_at _ _ _ _
      have ycg1 : ce_fr d (d + 11) g cg1 := fun x hx => by rw [hcg1]; exact ce_up_ne _ _ _ (by omega)
      refine ce_if_eqN (tgt := 38) dX8_bin_33 (by decide) rfl (by omega) (fun c_33 => ?_) (fun c_33 => ?_)
      · refine ce_iload_n dX8_bin_38 rfl ?_
        refine ce_iconst (v := nI (1)) dX8_bin_39 (by decide) ?_
        refine ce_icmp_eqN (tgt := 57) dX8_bin_40 (by decide) rfl rfl (by omega) (by omega) (fun c_40 => ?_) (fun c_40 => ?_)
        · refine ce_aload_n dX8_bin_57 rfl ?_
          refine ce_getR dX8_bin_58 fRX8_16 hD.1 hD.2.1.2.2.1 ?_
          refine ce_iload_n dX8_bin_61 rfl ?_
          refine ce_cSp dX8_bin_62 hX8_binAt kRX8_58 (m_X8_binAt (b)) rfl rfl (by decide) (Nat.le_of_ble_eq_true rfl) ?_
          refine ce_iconst (v := nI (2)) dX8_bin_65 (by decide) ?_
          refine ce_iadd (z := nI (57 + 3 * b + 2)) dX8_bin_66 (nI_add _ _) ?_
          refine ce_ialdv dX8_bin_67 (hD.2.2.2.2.1).1 rfl (hD.2.2.2.2.1).2 (by omega) (by decide) (((Mcg1.2.1).b2 (by omega)).trans (congrArg nI (by rw [kq_ne (by decide)]))) ?_
          refine ce_if_neN (tgt := 76) dX8_bin_68 (by decide) rfl (by omega) (fun c_68 => ?_) (fun c_68 => ?_)
          · have hb13 := hb13 (by omega)
            refine ce_aload_n dX8_bin_76 rfl ?_
            refine ce_getR dX8_bin_77 fRX8_16 hD.1 hD.2.1.2.2.1 ?_
            refine ce_iload_n dX8_bin_80 rfl ?_
            refine ce_cSp dX8_bin_81 hX8_binAt kRX8_58 (m_X8_binAt (b)) rfl rfl (by decide) (Nat.le_of_ble_eq_true rfl) ?_
            refine ce_iconst (v := nI (1)) dX8_bin_84 (by decide) ?_
            refine ce_iadd (z := nI (57 + 3 * b + 1)) dX8_bin_85 (nI_add _ _) ?_
            refine ce_ialdv dX8_bin_86 (hD.2.2.2.2.1).1 rfl (hD.2.2.2.2.1).2 (by omega) (by decide) (((Mcg1.2.1).b1 (by omega)).trans (congrArg nI (by rw [kq_ne (by decide)]))) ?_
            refine ce_iconst (v := nI (1)) dX8_bin_87 (by decide) ?_
            refine ce_isub (z := nI ((sK S) 13 b - (1))) dX8_bin_88 (pk_sub (by omega)) ?_
            refine ce_iret dX8_bin_89 rfl rfl (by decide) (by decide) ?_
            exact ⟨_, rfl, rfl, (if_neg (by omega)).symm, zcg1, Mcg1, ycg1⟩
          · refine ce_ldc dX8_bin_71 kRX8_65 ?_
            refine ce_goto (tgt := 89) dX8_bin_73 (by decide) ?_
            refine ce_iret dX8_bin_89 rfl rfl (by decide) (by decide) ?_
            exact ⟨_, rfl, rfl, (if_pos (by omega)).symm, zcg1, Mcg1, ycg1⟩
        · omega
      · omega
  · refine ce_iconst (v := nI (1)) dX8_bin_9 (by decide) ?_
    refine ce_goto (tgt := 30) dX8_bin_10 (by decide) ?_
    exfalso
    (try unfold ce_in at *)
    omega
set_option maxHeartbeats 2000000 in
set_option maxRecDepth 20000 in
theorem m_X8_bin_ok2 {σ : ce_S} {g : ce_D} (d : Nat) (S : ks_S) (hD : ce_LM σ d) (hr : ce_rM g d S) (ok : ks_ok S) (b : Nat) (hb : b < sK S 0 2) : ce_CT (ce_r 5) mX8_bin [.ref (d), .int (nI (b)), .int (nI (2))] σ g (ce_rv σ (fun z9 g1 => z9 = nI (sK S 12 b) ∧ g1 d 0 = nI 0 ∧ ce_rM g1 d S ∧ ce_fr d (d + 11) g g1)) ce_no := by
  have hB := ok.1.i7
  have hM := ok.1.me
  have hW := ok.1.wi
  have hst := ok.1.st
  have q0 : kq (sK S) 0 = sK S 0 := kq_ne (by decide)
  have h00 : kq (sK S) 0 0 ≤ 6 := by rw [q0]; exact hM
  have h01 : kq (sK S) 0 1 ≤ 6 := by rw [q0]; exact hW
  have h02 : kq (sK S) 0 2 ≤ 8 := by rw [q0]; exact hB
  have eqC : ce_sum (kq (sK S) 12) (kq (sK S) 0 2) = ce_sum (sK S 9) 36 := by rw [kq_ne (a := 12) (by decide), q0]; exact kq_cel ok.1
  have eqE : kv_emp (kq (sK S)) (kq (sK S) 0 2) = kv_emp (sK S) (sK S 0 2) := by rw [kq_emp, q0]
  have eqR : ce_sum (fun b => kq (sK S) 11 b - kq (sK S) 12 b) (kq (sK S) 0 2) = ce_sum (fun b => (sK S) 11 b - (sK S) 12 b) (sK S 0 2) := by rw [kq_ne (a := 11) (by decide), kq_ne (a := 12) (by decide), q0]
  have eb := nI_toInt (n := b) (by omega)
  have hb13 := ok.1.rk.2.2.2.1 b
  have hb12 := ok.1.rk.2.1 b
  refine ce_enter (by decide) rfl (Nat.le_of_ble_eq_true rfl) (L := [some (.ref (d)), some (.int (nI (b))), some (.int (nI (2)))]) rfl ?_
  refine ce_aload_n dX8_bin_0 rfl ?_
  refine ce_aload_n dX8_bin_1 rfl ?_
  refine ce_iload_n dX8_bin_2 rfl ?_
  refine ce_cVp dX8_bin_3 hX8_isBin kRX8_187 (n_isBin d (sK S) (sO S) hD hr.2.1 (nI (b)) (by omega)) rfl rfl hD.1 rfl (by decide) (Nat.le_of_ble_eq_true rfl) ?_
  refine ce_if_neB (tgt := 13) dX8_bin_6 (by decide) rfl (fun c_6 => ?_) (fun c_6 => ?_)
  · refine ce_iload_n dX8_bin_13 rfl ?_
    refine ce_i2l (v := (nI (2)).toInt64) dX8_bin_14 rfl ?_
    refine ce_lconst (v := 0) dX8_bin_15 (by decide) ?_
    refine ce_ldc2 dX8_bin_16 kRX8_190 ?_
    refine ce_cSp dX8_bin_19 hX8_in kRX8_108 (m_X8_in ((nI (2)).toInt64) (0) (2) ((0 : Int) ≤ ((2 : Nat) : Int) ∧ ((2 : Nat) : Int) ≤ (2 : Int)) (cr_io ((cr_tl (nI (2))).trans (nI_toInt (by omega))) (by decide) (by decide))) rfl rfl (by decide) (Nat.le_of_ble_eq_true rfl) ?_
    refine ce_if_eqB (tgt := 29) dX8_bin_22 (by decide) rfl (fun c_22 => ?_) (fun c_22 => ?_)
    · refine ce_iconst (v := nI (2)) dX8_bin_29 (by decide) ?_
      exfalso
      (try unfold ce_in at *)
      omega
    · refine ce_iconst (v := nI (0)) dX8_bin_25 (by decide) ?_
      refine ce_goto (tgt := 30) dX8_bin_26 (by decide) ?_
      refine ce_cVr dX8_bin_30 hX8_refused kRX8_115 (m_X8_refused0 d hD) rfl rfl hD.1 rfl (by decide) (Nat.le_of_ble_eq_true rfl) (fun rcg1 cg1 hcg1 => ?_)
      obtain ⟨ecg1, hcg1⟩ := hcg1
      have ecg1 : rcg1 = nI 0 := ecg1
      subst ecg1
      have Mcg1 : ce_rM cg1 d S := by rw [hcg1]; exact rM_ref hr
      have zcg1 : cg1 d 0 = nI 0 := by rw [hcg1]; exact ce_up_at _ _ _ _
      have ycg1 : ce_fr d (d + 11) g cg1 := fun x hx => by rw [hcg1]; exact ce_up_ne _ _ _ (by omega)
      refine ce_if_eqN (tgt := 38) dX8_bin_33 (by decide) rfl (by omega) (fun c_33 => ?_) (fun c_33 => ?_)
      · refine ce_iload_n dX8_bin_38 rfl ?_
        refine ce_iconst (v := nI (1)) dX8_bin_39 (by decide) ?_
        refine ce_icmp_eqN (tgt := 57) dX8_bin_40 (by decide) rfl rfl (by omega) (by omega) (fun c_40 => ?_) (fun c_40 => ?_)
        · omega
        · refine ce_aload_n dX8_bin_43 rfl ?_
          refine ce_getR dX8_bin_44 fRX8_16 hD.1 hD.2.1.2.2.1 ?_
          refine ce_iload_n dX8_bin_47 rfl ?_
          refine ce_cSp dX8_bin_48 hX8_binAt kRX8_58 (m_X8_binAt (b)) rfl rfl (by decide) (Nat.le_of_ble_eq_true rfl) ?_
          refine ce_iload_n dX8_bin_51 rfl ?_
          refine ce_iadd (z := nI (57 + 3 * b + 2)) dX8_bin_52 (nI_add _ _) ?_
          refine ce_ialdv dX8_bin_53 (hD.2.2.2.2.1).1 rfl (hD.2.2.2.2.1).2 (by omega) (by decide) (((Mcg1.2.1).b2 (by omega)).trans (congrArg nI (by rw [kq_ne (by decide)]))) ?_
          refine ce_goto (tgt := 89) dX8_bin_54 (by decide) ?_
          refine ce_iret dX8_bin_89 rfl rfl (by decide) (by decide) ?_
          exact ⟨_, rfl, rfl, rfl, zcg1, Mcg1, ycg1⟩
      · omega
  · refine ce_iconst (v := nI (1)) dX8_bin_9 (by decide) ?_
    refine ce_goto (tgt := 30) dX8_bin_10 (by decide) ?_
    exfalso
    (try unfold ce_in at *)
    omega
set_option maxHeartbeats 2000000 in
set_option maxRecDepth 20000 in
theorem m_X8_has_ok0 {σ : ce_S} {g : ce_D} (d : Nat) (S : ks_S) (hD : ce_LM σ d) (hr : ce_rM g d S) (ok : ks_ok S) (m w : Nat) (hm : m < sK S 0 0) (hw : w < sK S 0 1) : ce_CT (ce_r 5) mX8_has [.ref (d), .int (nI (m)), .int (nI (w)), .int (nI (0))] σ g (ce_rv σ (fun z9 g1 => z9 = nI (sK S 7 (m * 6 + w)) ∧ g1 d 0 = nI 0 ∧ ce_rM g1 d S ∧ ce_fr d (d + 11) g g1)) ce_no := by
  have hB := ok.1.i7
  have hM := ok.1.me
  have hW := ok.1.wi
  have hst := ok.1.st
  have q0 : kq (sK S) 0 = sK S 0 := kq_ne (by decide)
  have h00 : kq (sK S) 0 0 ≤ 6 := by rw [q0]; exact hM
  have h01 : kq (sK S) 0 1 ≤ 6 := by rw [q0]; exact hW
  have h02 : kq (sK S) 0 2 ≤ 8 := by rw [q0]; exact hB
  have eqC : ce_sum (kq (sK S) 12) (kq (sK S) 0 2) = ce_sum (sK S 9) 36 := by rw [kq_ne (a := 12) (by decide), q0]; exact kq_cel ok.1
  have eqE : kv_emp (kq (sK S)) (kq (sK S) 0 2) = kv_emp (sK S) (sK S 0 2) := by rw [kq_emp, q0]
  have eqR : ce_sum (fun b => kq (sK S) 11 b - kq (sK S) 12 b) (kq (sK S) 0 2) = ce_sum (fun b => (sK S) 11 b - (sK S) 12 b) (sK S 0 2) := by rw [kq_ne (a := 11) (by decide), kq_ne (a := 12) (by decide), q0]
  have em := nI_toInt (n := m) (by omega)
  have ew := nI_toInt (n := w) (by omega)
  refine ce_enter (by decide) rfl (Nat.le_of_ble_eq_true rfl) (L := [some (.ref (d)), some (.int (nI (m))), some (.int (nI (w))), some (.int (nI (0)))]) rfl ?_
  refine ce_aload_n dX8_has_0 rfl ?_
  refine ce_aload_n dX8_has_1 rfl ?_
  refine ce_iload_n dX8_has_2 rfl ?_
  refine ce_cVp dX8_has_3 hX8_isMember kRX8_174 (n_isMember d (sK S) (sO S) hD hr.2.1 (nI (m)) (by omega)) rfl rfl hD.1 rfl (by decide) (Nat.le_of_ble_eq_true rfl) ?_
  refine ce_if_eqB (tgt := 17) dX8_has_6 (by decide) rfl (fun c_6 => ?_) (fun c_6 => ?_)
  · refine ce_iconst (v := nI (1)) dX8_has_17 (by decide) ?_
    refine ce_goto (tgt := 38) dX8_has_18 (by decide) ?_
    exfalso
    (try unfold ce_in at *)
    omega
  · refine ce_aload_n dX8_has_9 rfl ?_
    refine ce_iload_n dX8_has_10 rfl ?_
    refine ce_cVp dX8_has_11 hX8_isWine kRX8_182 (n_isWine d (sK S) (sO S) hD hr.2.1 (nI (w)) (by omega)) rfl rfl hD.1 rfl (by decide) (Nat.le_of_ble_eq_true rfl) ?_
    refine ce_if_neB (tgt := 21) dX8_has_14 (by decide) rfl (fun c_14 => ?_) (fun c_14 => ?_)
    · refine ce_iload_n dX8_has_21 rfl ?_
      refine ce_i2l (v := (nI (0)).toInt64) dX8_has_22 rfl ?_
      refine ce_lconst (v := 0) dX8_has_23 (by decide) ?_
      refine ce_ldc2 dX8_has_24 kRX8_190 ?_
      refine ce_cSp dX8_has_27 hX8_in kRX8_108 (m_X8_in ((nI (0)).toInt64) (0) (2) ((0 : Int) ≤ ((0 : Nat) : Int) ∧ ((0 : Nat) : Int) ≤ (2 : Int)) (cr_io ((cr_tl (nI (0))).trans (nI_toInt (by omega))) (by decide) (by decide))) rfl rfl (by decide) (Nat.le_of_ble_eq_true rfl) ?_
      refine ce_if_eqB (tgt := 37) dX8_has_30 (by decide) rfl (fun c_30 => ?_) (fun c_30 => ?_)
      · refine ce_iconst (v := nI (2)) dX8_has_37 (by decide) ?_
        exfalso
        (try unfold ce_in at *)
        omega
      · refine ce_iconst (v := nI (0)) dX8_has_33 (by decide) ?_
        refine ce_goto (tgt := 38) dX8_has_34 (by decide) ?_
        refine ce_cVr dX8_has_38 hX8_refused kRX8_115 (m_X8_refused0 d hD) rfl rfl hD.1 rfl (by decide) (Nat.le_of_ble_eq_true rfl) (fun rcg1 cg1 hcg1 => ?_)
        obtain ⟨ecg1, hcg1⟩ := hcg1
        have ecg1 : rcg1 = nI 0 := ecg1
        subst ecg1
        have Mcg1 : ce_rM cg1 d S := by rw [hcg1]; exact rM_ref hr
        have zcg1 : cg1 d 0 = nI 0 := by rw [hcg1]; exact ce_up_at _ _ _ _
        have ycg1 : ce_fr d (d + 11) g cg1 := fun x hx => by rw [hcg1]; exact ce_up_ne _ _ _ (by omega)
        refine ce_if_eqN (tgt := 48) dX8_has_41 (by decide) rfl (by omega) (fun c_41 => ?_) (fun c_41 => ?_)
        · refine ce_aload_n dX8_has_48 rfl ?_
          refine ce_getR dX8_has_49 fRX8_16 hD.1 hD.2.1.2.2.1 ?_
          refine ce_iload_n dX8_has_52 rfl ?_
          refine ce_iload_n dX8_has_53 rfl ?_
          refine ce_cSp dX8_has_54 hX8_hold kRX8_54 (m_X8_hold (m) (w)) rfl rfl (by decide) (Nat.le_of_ble_eq_true rfl) ?_
          refine ce_iload_n dX8_has_57 rfl ?_
          refine ce_iadd (z := nI (81 + 18 * m + 3 * w + 0)) dX8_has_58 (nI_add _ _) ?_
          refine ce_ialdv dX8_has_59 (hD.2.2.2.2.1).1 rfl (hD.2.2.2.2.1).2 (by omega) (by decide) (((Mcg1.2.1).h0 (by omega) (by omega)).trans (congrArg nI (by rw [kq_ne (by decide)]))) ?_
          refine ce_iret dX8_has_60 rfl rfl (by decide) (by decide) ?_
          exact ⟨_, rfl, rfl, rfl, zcg1, Mcg1, ycg1⟩
        · omega
    · refine ce_iconst (v := nI (1)) dX8_has_17 (by decide) ?_
      refine ce_goto (tgt := 38) dX8_has_18 (by decide) ?_
      exfalso
      (try unfold ce_in at *)
      omega
set_option maxHeartbeats 2000000 in
set_option maxRecDepth 20000 in
theorem m_X8_has_ok1 {σ : ce_S} {g : ce_D} (d : Nat) (S : ks_S) (hD : ce_LM σ d) (hr : ce_rM g d S) (ok : ks_ok S) (m w : Nat) (hm : m < sK S 0 0) (hw : w < sK S 0 1) : ce_CT (ce_r 5) mX8_has [.ref (d), .int (nI (m)), .int (nI (w)), .int (nI (1))] σ g (ce_rv σ (fun z9 g1 => z9 = nI (sK S 8 (m * 6 + w)) ∧ g1 d 0 = nI 0 ∧ ce_rM g1 d S ∧ ce_fr d (d + 11) g g1)) ce_no := by
  have hB := ok.1.i7
  have hM := ok.1.me
  have hW := ok.1.wi
  have hst := ok.1.st
  have q0 : kq (sK S) 0 = sK S 0 := kq_ne (by decide)
  have h00 : kq (sK S) 0 0 ≤ 6 := by rw [q0]; exact hM
  have h01 : kq (sK S) 0 1 ≤ 6 := by rw [q0]; exact hW
  have h02 : kq (sK S) 0 2 ≤ 8 := by rw [q0]; exact hB
  have eqC : ce_sum (kq (sK S) 12) (kq (sK S) 0 2) = ce_sum (sK S 9) 36 := by rw [kq_ne (a := 12) (by decide), q0]; exact kq_cel ok.1
  have eqE : kv_emp (kq (sK S)) (kq (sK S) 0 2) = kv_emp (sK S) (sK S 0 2) := by rw [kq_emp, q0]
  have eqR : ce_sum (fun b => kq (sK S) 11 b - kq (sK S) 12 b) (kq (sK S) 0 2) = ce_sum (fun b => (sK S) 11 b - (sK S) 12 b) (sK S 0 2) := by rw [kq_ne (a := 11) (by decide), kq_ne (a := 12) (by decide), q0]
  have em := nI_toInt (n := m) (by omega)
  have ew := nI_toInt (n := w) (by omega)
  refine ce_enter (by decide) rfl (Nat.le_of_ble_eq_true rfl) (L := [some (.ref (d)), some (.int (nI (m))), some (.int (nI (w))), some (.int (nI (1)))]) rfl ?_
  refine ce_aload_n dX8_has_0 rfl ?_
  refine ce_aload_n dX8_has_1 rfl ?_
  refine ce_iload_n dX8_has_2 rfl ?_
  refine ce_cVp dX8_has_3 hX8_isMember kRX8_174 (n_isMember d (sK S) (sO S) hD hr.2.1 (nI (m)) (by omega)) rfl rfl hD.1 rfl (by decide) (Nat.le_of_ble_eq_true rfl) ?_
  refine ce_if_eqB (tgt := 17) dX8_has_6 (by decide) rfl (fun c_6 => ?_) (fun c_6 => ?_)
  · refine ce_iconst (v := nI (1)) dX8_has_17 (by decide) ?_
    refine ce_goto (tgt := 38) dX8_has_18 (by decide) ?_
    exfalso
    (try unfold ce_in at *)
    omega
  · refine ce_aload_n dX8_has_9 rfl ?_
    refine ce_iload_n dX8_has_10 rfl ?_
    refine ce_cVp dX8_has_11 hX8_isWine kRX8_182 (n_isWine d (sK S) (sO S) hD hr.2.1 (nI (w)) (by omega)) rfl rfl hD.1 rfl (by decide) (Nat.le_of_ble_eq_true rfl) ?_
    refine ce_if_neB (tgt := 21) dX8_has_14 (by decide) rfl (fun c_14 => ?_) (fun c_14 => ?_)
    · refine ce_iload_n dX8_has_21 rfl ?_
      refine ce_i2l (v := (nI (1)).toInt64) dX8_has_22 rfl ?_
      refine ce_lconst (v := 0) dX8_has_23 (by decide) ?_
      refine ce_ldc2 dX8_has_24 kRX8_190 ?_
      refine ce_cSp dX8_has_27 hX8_in kRX8_108 (m_X8_in ((nI (1)).toInt64) (0) (2) ((0 : Int) ≤ ((1 : Nat) : Int) ∧ ((1 : Nat) : Int) ≤ (2 : Int)) (cr_io ((cr_tl (nI (1))).trans (nI_toInt (by omega))) (by decide) (by decide))) rfl rfl (by decide) (Nat.le_of_ble_eq_true rfl) ?_
      refine ce_if_eqB (tgt := 37) dX8_has_30 (by decide) rfl (fun c_30 => ?_) (fun c_30 => ?_)
      · refine ce_iconst (v := nI (2)) dX8_has_37 (by decide) ?_
        exfalso
        (try unfold ce_in at *)
        omega
      · refine ce_iconst (v := nI (0)) dX8_has_33 (by decide) ?_
        refine ce_goto (tgt := 38) dX8_has_34 (by decide) ?_
        refine ce_cVr dX8_has_38 hX8_refused kRX8_115 (m_X8_refused0 d hD) rfl rfl hD.1 rfl (by decide) (Nat.le_of_ble_eq_true rfl) (fun rcg1 cg1 hcg1 => ?_)
        obtain ⟨ecg1, hcg1⟩ := hcg1
        have ecg1 : rcg1 = nI 0 := ecg1
        subst ecg1
        have Mcg1 : ce_rM cg1 d S := by rw [hcg1]; exact rM_ref hr
        have zcg1 : cg1 d 0 = nI 0 := by rw [hcg1]; exact ce_up_at _ _ _ _
        have ycg1 : ce_fr d (d + 11) g cg1 := fun x hx => by rw [hcg1]; exact ce_up_ne _ _ _ (by omega)
        refine ce_if_eqN (tgt := 48) dX8_has_41 (by decide) rfl (by omega) (fun c_41 => ?_) (fun c_41 => ?_)
        · refine ce_aload_n dX8_has_48 rfl ?_
          refine ce_getR dX8_has_49 fRX8_16 hD.1 hD.2.1.2.2.1 ?_
          refine ce_iload_n dX8_has_52 rfl ?_
          refine ce_iload_n dX8_has_53 rfl ?_
          refine ce_cSp dX8_has_54 hX8_hold kRX8_54 (m_X8_hold (m) (w)) rfl rfl (by decide) (Nat.le_of_ble_eq_true rfl) ?_
          refine ce_iload_n dX8_has_57 rfl ?_
          refine ce_iadd (z := nI (81 + 18 * m + 3 * w + 1)) dX8_has_58 (nI_add _ _) ?_
          refine ce_ialdv dX8_has_59 (hD.2.2.2.2.1).1 rfl (hD.2.2.2.2.1).2 (by omega) (by decide) (((Mcg1.2.1).h1 (by omega) (by omega)).trans (congrArg nI (by rw [kq_ne (by decide)]))) ?_
          refine ce_iret dX8_has_60 rfl rfl (by decide) (by decide) ?_
          exact ⟨_, rfl, rfl, rfl, zcg1, Mcg1, ycg1⟩
        · omega
    · refine ce_iconst (v := nI (1)) dX8_has_17 (by decide) ?_
      refine ce_goto (tgt := 38) dX8_has_18 (by decide) ?_
      exfalso
      (try unfold ce_in at *)
      omega
set_option maxHeartbeats 2000000 in
set_option maxRecDepth 20000 in
theorem m_X8_has_ok2 {σ : ce_S} {g : ce_D} (d : Nat) (S : ks_S) (hD : ce_LM σ d) (hr : ce_rM g d S) (ok : ks_ok S) (m w : Nat) (hm : m < sK S 0 0) (hw : w < sK S 0 1) : ce_CT (ce_r 5) mX8_has [.ref (d), .int (nI (m)), .int (nI (w)), .int (nI (2))] σ g (ce_rv σ (fun z9 g1 => z9 = nI (sK S 9 (m * 6 + w)) ∧ g1 d 0 = nI 0 ∧ ce_rM g1 d S ∧ ce_fr d (d + 11) g g1)) ce_no := by
  have hB := ok.1.i7
  have hM := ok.1.me
  have hW := ok.1.wi
  have hst := ok.1.st
  have q0 : kq (sK S) 0 = sK S 0 := kq_ne (by decide)
  have h00 : kq (sK S) 0 0 ≤ 6 := by rw [q0]; exact hM
  have h01 : kq (sK S) 0 1 ≤ 6 := by rw [q0]; exact hW
  have h02 : kq (sK S) 0 2 ≤ 8 := by rw [q0]; exact hB
  have eqC : ce_sum (kq (sK S) 12) (kq (sK S) 0 2) = ce_sum (sK S 9) 36 := by rw [kq_ne (a := 12) (by decide), q0]; exact kq_cel ok.1
  have eqE : kv_emp (kq (sK S)) (kq (sK S) 0 2) = kv_emp (sK S) (sK S 0 2) := by rw [kq_emp, q0]
  have eqR : ce_sum (fun b => kq (sK S) 11 b - kq (sK S) 12 b) (kq (sK S) 0 2) = ce_sum (fun b => (sK S) 11 b - (sK S) 12 b) (sK S 0 2) := by rw [kq_ne (a := 11) (by decide), kq_ne (a := 12) (by decide), q0]
  have em := nI_toInt (n := m) (by omega)
  have ew := nI_toInt (n := w) (by omega)
  refine ce_enter (by decide) rfl (Nat.le_of_ble_eq_true rfl) (L := [some (.ref (d)), some (.int (nI (m))), some (.int (nI (w))), some (.int (nI (2)))]) rfl ?_
  refine ce_aload_n dX8_has_0 rfl ?_
  refine ce_aload_n dX8_has_1 rfl ?_
  refine ce_iload_n dX8_has_2 rfl ?_
  refine ce_cVp dX8_has_3 hX8_isMember kRX8_174 (n_isMember d (sK S) (sO S) hD hr.2.1 (nI (m)) (by omega)) rfl rfl hD.1 rfl (by decide) (Nat.le_of_ble_eq_true rfl) ?_
  refine ce_if_eqB (tgt := 17) dX8_has_6 (by decide) rfl (fun c_6 => ?_) (fun c_6 => ?_)
  · refine ce_iconst (v := nI (1)) dX8_has_17 (by decide) ?_
    refine ce_goto (tgt := 38) dX8_has_18 (by decide) ?_
    exfalso
    (try unfold ce_in at *)
    omega
  · refine ce_aload_n dX8_has_9 rfl ?_
    refine ce_iload_n dX8_has_10 rfl ?_
    refine ce_cVp dX8_has_11 hX8_isWine kRX8_182 (n_isWine d (sK S) (sO S) hD hr.2.1 (nI (w)) (by omega)) rfl rfl hD.1 rfl (by decide) (Nat.le_of_ble_eq_true rfl) ?_
    refine ce_if_neB (tgt := 21) dX8_has_14 (by decide) rfl (fun c_14 => ?_) (fun c_14 => ?_)
    · refine ce_iload_n dX8_has_21 rfl ?_
      refine ce_i2l (v := (nI (2)).toInt64) dX8_has_22 rfl ?_
      refine ce_lconst (v := 0) dX8_has_23 (by decide) ?_
      refine ce_ldc2 dX8_has_24 kRX8_190 ?_
      refine ce_cSp dX8_has_27 hX8_in kRX8_108 (m_X8_in ((nI (2)).toInt64) (0) (2) ((0 : Int) ≤ ((2 : Nat) : Int) ∧ ((2 : Nat) : Int) ≤ (2 : Int)) (cr_io ((cr_tl (nI (2))).trans (nI_toInt (by omega))) (by decide) (by decide))) rfl rfl (by decide) (Nat.le_of_ble_eq_true rfl) ?_
      refine ce_if_eqB (tgt := 37) dX8_has_30 (by decide) rfl (fun c_30 => ?_) (fun c_30 => ?_)
      · refine ce_iconst (v := nI (2)) dX8_has_37 (by decide) ?_
        exfalso
        (try unfold ce_in at *)
        omega
      · refine ce_iconst (v := nI (0)) dX8_has_33 (by decide) ?_
        refine ce_goto (tgt := 38) dX8_has_34 (by decide) ?_
        refine ce_cVr dX8_has_38 hX8_refused kRX8_115 (m_X8_refused0 d hD) rfl rfl hD.1 rfl (by decide) (Nat.le_of_ble_eq_true rfl) (fun rcg1 cg1 hcg1 => ?_)
        obtain ⟨ecg1, hcg1⟩ := hcg1
        have ecg1 : rcg1 = nI 0 := ecg1
        subst ecg1
        have Mcg1 : ce_rM cg1 d S := by rw [hcg1]; exact rM_ref hr
        have zcg1 : cg1 d 0 = nI 0 := by rw [hcg1]; exact ce_up_at _ _ _ _
        have ycg1 : ce_fr d (d + 11) g cg1 := fun x hx => by rw [hcg1]; exact ce_up_ne _ _ _ (by omega)
        refine ce_if_eqN (tgt := 48) dX8_has_41 (by decide) rfl (by omega) (fun c_41 => ?_) (fun c_41 => ?_)
        · refine ce_aload_n dX8_has_48 rfl ?_
          refine ce_getR dX8_has_49 fRX8_16 hD.1 hD.2.1.2.2.1 ?_
          refine ce_iload_n dX8_has_52 rfl ?_
          refine ce_iload_n dX8_has_53 rfl ?_
          refine ce_cSp dX8_has_54 hX8_hold kRX8_54 (m_X8_hold (m) (w)) rfl rfl (by decide) (Nat.le_of_ble_eq_true rfl) ?_
          refine ce_iload_n dX8_has_57 rfl ?_
          refine ce_iadd (z := nI (81 + 18 * m + 3 * w + 2)) dX8_has_58 (nI_add _ _) ?_
          refine ce_ialdv dX8_has_59 (hD.2.2.2.2.1).1 rfl (hD.2.2.2.2.1).2 (by omega) (by decide) (((Mcg1.2.1).h2 (by omega) (by omega)).trans (congrArg nI (by rw [kq_ne (by decide)]))) ?_
          refine ce_iret dX8_has_60 rfl rfl (by decide) (by decide) ?_
          exact ⟨_, rfl, rfl, rfl, zcg1, Mcg1, ycg1⟩
        · omega
    · refine ce_iconst (v := nI (1)) dX8_has_17 (by decide) ?_
      refine ce_goto (tgt := 38) dX8_has_18 (by decide) ?_
      exfalso
      (try unfold ce_in at *)
      omega
set_option maxHeartbeats 2000000 in
set_option maxRecDepth 20000 in
theorem m_X8_roomFor_ok {σ : ce_S} {g : ce_D} (d : Nat) (S : ks_S) (hD : ce_LM σ d) (hr : ce_rM g d S) (ok : ks_ok S) (w : Nat) (hw : w < sK S 0 1) : ce_CT (ce_r 5) mX8_roomFor [.ref (d), .int (nI (w))] σ g (ce_rv σ (fun z9 g1 => z9 = nI (ce_sum (kv_room (sK S) w) (sK S 0 2)) ∧ g1 d 0 = nI 0 ∧ ce_rM g1 d S ∧ ce_fr d (d + 11) g g1)) ce_no := by
  have hB := ok.1.i7
  have hM := ok.1.me
  have hW := ok.1.wi
  have hst := ok.1.st
  have q0 : kq (sK S) 0 = sK S 0 := kq_ne (by decide)
  have h00 : kq (sK S) 0 0 ≤ 6 := by rw [q0]; exact hM
  have h01 : kq (sK S) 0 1 ≤ 6 := by rw [q0]; exact hW
  have h02 : kq (sK S) 0 2 ≤ 8 := by rw [q0]; exact hB
  have eqC : ce_sum (kq (sK S) 12) (kq (sK S) 0 2) = ce_sum (sK S 9) 36 := by rw [kq_ne (a := 12) (by decide), q0]; exact kq_cel ok.1
  have eqE : kv_emp (kq (sK S)) (kq (sK S) 0 2) = kv_emp (sK S) (sK S 0 2) := by rw [kq_emp, q0]
  have eqR : ce_sum (fun b => kq (sK S) 11 b - kq (sK S) 12 b) (kq (sK S) 0 2) = ce_sum (fun b => (sK S) 11 b - (sK S) 12 b) (sK S 0 2) := by rw [kq_ne (a := 11) (by decide), kq_ne (a := 12) (by decide), q0]
  have ew := nI_toInt (n := w) (by omega)
  refine ce_enter (by decide) rfl (Nat.le_of_ble_eq_true rfl) (L := [some (.ref (d)), some (.int (nI (w)))]) rfl ?_
  refine ce_aload_n dX8_roomFor_0 rfl ?_
  refine ce_aload_n dX8_roomFor_1 rfl ?_
  refine ce_iload_n dX8_roomFor_2 rfl ?_
  refine ce_cVp dX8_roomFor_3 hX8_isWine kRX8_182 (n_isWine d (sK S) (sO S) hD hr.2.1 (nI (w)) (by omega)) rfl rfl hD.1 rfl (by decide) (Nat.le_of_ble_eq_true rfl) ?_
  refine ce_if_eqB (tgt := 13) dX8_roomFor_6 (by decide) rfl (fun c_6 => ?_) (fun c_6 => ?_)
  · refine ce_iconst (v := nI (1)) dX8_roomFor_13 (by decide) ?_
    exfalso
    (try unfold ce_in at *)
    omega
  · refine ce_iconst (v := nI (0)) dX8_roomFor_9 (by decide) ?_
    refine ce_goto (tgt := 14) dX8_roomFor_10 (by decide) ?_
    refine ce_cVr dX8_roomFor_14 hX8_refused kRX8_115 (m_X8_refused0 d hD) rfl rfl hD.1 rfl (by decide) (Nat.le_of_ble_eq_true rfl) (fun rcg1 cg1 hcg1 => ?_)
    obtain ⟨ecg1, hcg1⟩ := hcg1
    have ecg1 : rcg1 = nI 0 := ecg1
    subst ecg1
    have Mcg1 : ce_rM cg1 d S := by rw [hcg1]; exact rM_ref hr
    have zcg1 : cg1 d 0 = nI 0 := by rw [hcg1]; exact ce_up_at _ _ _ _
    have ycg1 : ce_fr d (d + 11) g cg1 := fun x hx => by rw [hcg1]; exact ce_up_ne _ _ _ (by omega)
    refine ce_if_eqN (tgt := 24) dX8_roomFor_17 (by decide) rfl (by omega) (fun c_17 => ?_) (fun c_17 => ?_)
    · refine ce_aload_n dX8_roomFor_24 rfl ?_
      refine ce_getR dX8_roomFor_25 fRX8_16 hD.1 hD.2.1.2.2.1 ?_
      refine ce_iload_n dX8_roomFor_28 rfl ?_
      refine ce_cSp dX8_roomFor_29 hX8_roomOf kRX8_92 ((show ce_sum (kv_room (kq (sK S)) w) (kq (sK S) 0 2) = ce_sum (kv_room (sK S) w) (sK S 0 2) by rw [q0, kv_room_c (K := sK S) (kq_ne (by decide)) (kq_ne (by decide)) (kq_ne (by decide))]) ▸ m_X8_roomOf (d + 3) (kq (sK S)) (sO S) ⟨(hD.2.2.2.2.1).1, (hD.2.2.2.2.1).2⟩ Mcg1.2.1 (w) h02 (by omega) (kq_rk ok.1.rk)) rfl rfl (by decide) (Nat.le_of_ble_eq_true rfl) ?_
      refine ce_iret dX8_roomFor_32 rfl rfl (by decide) (by decide) ?_
      exact ⟨_, rfl, rfl, rfl, zcg1, Mcg1, ycg1⟩
    · omega
