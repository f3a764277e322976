theorem n_isMember {σ : ce_S} {g : ce_D} (d : Nat) (K : ce_V) (O : Nat → Int32) (hD : ce_LM σ d) (hr : cr_row (g (d + 3)) (kq K) O) (x : Int32) (h8 : K 0 0 ≤ 8) : ce_CT (ce_r 1) mX8_isMember [.ref d, .int x] σ g (ce_pv (if ce_in x (K 0 0) then 1 else 0) σ g) ce_no := by
  have h := m_X8_isMember d (kq K) O hD hr x (by rw [kq_ne (by decide)]; exact h8)
  rw [kq_ne (a := 0) (by decide)] at h
  exact h
theorem n_isWine {σ : ce_S} {g : ce_D} (d : Nat) (K : ce_V) (O : Nat → Int32) (hD : ce_LM σ d) (hr : cr_row (g (d + 3)) (kq K) O) (x : Int32) (h8 : K 0 1 ≤ 8) : ce_CT (ce_r 1) mX8_isWine [.ref d, .int x] σ g (ce_pv (if ce_in x (K 0 1) then 1 else 0) σ g) ce_no := by
  have h := m_X8_isWine d (kq K) O hD hr x (by rw [kq_ne (by decide)]; exact h8)
  rw [kq_ne (a := 0) (by decide)] at h
  exact h
theorem n_isBin {σ : ce_S} {g : ce_D} (d : Nat) (K : ce_V) (O : Nat → Int32) (hD : ce_LM σ d) (hr : cr_row (g (d + 3)) (kq K) O) (x : Int32) (h8 : K 0 2 ≤ 8) : ce_CT (ce_r 1) mX8_isBin [.ref d, .int x] σ g (ce_pv (if ce_in x (K 0 2) then 1 else 0) σ g) ce_no := by
  have h := m_X8_isBin d (kq K) O hD hr x (by rw [kq_ne (by decide)]; exact h8)
  rw [kq_ne (a := 0) (by decide)] at h
  exact h
theorem n_addMemberTo {σ : ce_S} {g0 : ce_D} {r : Nat} {K : ce_V} {O : Nat → Int32} (hA : ce_LA σ 10 r 189) (hr : cr_row (g0 r) (kq K) O) (p : Nat) (h : K 0 0 < 6) : ce_CT (ce_r 2) mX8_addMemberTo [.ref r, .int (nI p)] σ g0 (ce_uv σ (fun g1 => cr_row (g1 r) (kq (kv_enr K p)) O ∧ ∀ x, x ≠ r → g1 x = g0 x)) ce_no := by
  refine ce_CTm (m_X8_addMemberTo r (kq K) O hA hr p (by rw [kq_ne (by decide)]; exact h)) ?_
  rintro v σ1 g1 ⟨rfl, rfl, h1, h2⟩
  rw [kq_enr] at h1
  exact ⟨rfl, rfl, h1, h2⟩
theorem n_addWineTo {σ : ce_S} {g0 : ce_D} {r : Nat} {K : ce_V} {O : Nat → Int32} (hA : ce_LA σ 10 r 189) (hr : cr_row (g0 r) (kq K) O) (p n : Nat) (h : K 0 1 < 6) : ce_CT (ce_r 2) mX8_addWineTo [.ref r, .int (nI p), .int (nI n)] σ g0 (ce_uv σ (fun g1 => cr_row (g1 r) (kq (kv_off K p n)) O ∧ ∀ x, x ≠ r → g1 x = g0 x)) ce_no := by
  refine ce_CTm (m_X8_addWineTo r (kq K) O hA hr p n (by rw [kq_ne (by decide)]; exact h)) ?_
  rintro v σ1 g1 ⟨rfl, rfl, h1, h2⟩
  rw [kq_off] at h1
  exact ⟨rfl, rfl, h1, h2⟩
theorem n_addBinTo {σ : ce_S} {g0 : ce_D} {r : Nat} {K : ce_V} {O : Nat → Int32} (hA : ce_LA σ 10 r 189) (hr : cr_row (g0 r) (kq K) O) (p : Nat) (h : K 0 2 < 8) : ce_CT (ce_r 2) mX8_addBinTo [.ref r, .int (nI p)] σ g0 (ce_uv σ (fun g1 => cr_row (g1 r) (kq (kv_inst K p)) O ∧ ∀ x, x ≠ r → g1 x = g0 x)) ce_no := by
  refine ce_CTm (m_X8_addBinTo r (kq K) O hA hr p (by rw [kq_ne (by decide)]; exact h)) ?_
  rintro v σ1 g1 ⟨rfl, rfl, h1, h2⟩
  rw [kq_inst] at h1
  exact ⟨rfl, rfl, h1, h2⟩
set_option maxHeartbeats 2000000 in
set_option maxRecDepth 20000 in
theorem m_X8_addMember_no {σ : ce_S} {g : ce_D} (d : Nat) (S : ks_S) (hD : ce_LM σ d) (hr : ce_rM g d S) (ok : ks_ok S) (x : Int32) (f : Nat) (hf : kv_memF (sK S) x = f) (h0 : f ≠ 0) : ce_CT (ce_r 5) mX8_addMember [.ref (d), .int (x)] σ g (ce_rv σ (fun z9 g1 => g1 d 0 = nI (f - 1) ∧ ce_rM g1 d S ∧ ce_fr d (d + 11) g g1)) ce_no := by
  have hB := ok.1.i7
  have hM := ok.1.me
  have hW := ok.1.wi
  have hst := ok.1.st
  refine ce_enter (by decide) rfl (Nat.le_of_ble_eq_true rfl) (L := [some (.ref (d)), some (.int (x))]) rfl ?_
  refine ce_aload_n dX8_addMember_0 rfl ?_
  refine ce_iload_n dX8_addMember_1 rfl ?_
  refine ce_i2l (v := (x).toInt64) dX8_addMember_2 rfl ?_
  refine ce_lconst (v := 0) dX8_addMember_3 (by decide) ?_
  refine ce_ldc2 dX8_addMember_4 kRX8_192 ?_
  refine ce_cSp dX8_addMember_7 hX8_in kRX8_108 (m_X8_in ((x).toInt64) (0) (999) ((0 : Int) ≤ (x).toInt ∧ (x).toInt ≤ (999 : Int)) (cr_io ((cr_tl (x)).trans rfl) (by decide) (by decide))) rfl rfl (by decide) (Nat.le_of_ble_eq_true rfl) ?_
  refine ce_if_neB (tgt := 17) dX8_addMember_10 (by decide) rfl (fun c_10 => ?_) (fun c_10 => ?_)
  · refine ce_aload_n dX8_addMember_17 rfl ?_
    refine ce_getR dX8_addMember_18 fRX8_16 hD.1 hD.2.1.2.2.1 ?_
    refine ce_iconst (v := nI (0)) dX8_addMember_21 (by decide) ?_
    refine ce_ialdv dX8_addMember_22 (hD.2.2.2.2.1).1 rfl (hD.2.2.2.2.1).2 (by omega) (by decide) (((hr.2.1).c0).trans (congrArg nI (by rw [kq_ne (by decide)]))) ?_
    refine ce_bipush (v := nI (6)) dX8_addMember_23 (by decide) ?_
    refine ce_icmp_neN (tgt := 32) dX8_addMember_25 (by decide) rfl rfl (by omega) (by omega) (fun c_25 => ?_) (fun c_25 => ?_)
    · refine ce_iconst (v := nI (0)) dX8_addMember_32 (by decide) ?_
      have ef : f = 0 := hf.symm.trans (show kv_memF (sK S) x = 0 by unfold kv_memF; (try unfold ce_n); (try simp only [Int.toNat_natCast]); (try unfold ce_in at *); (repeat' split) <;> first | rfl | (exfalso; omega))
      exact absurd ef h0
    · refine ce_iconst (v := nI (2)) dX8_addMember_28 (by decide) ?_
      refine ce_goto (tgt := 33) dX8_addMember_29 (by decide) ?_
      have ef : f = 3 := hf.symm.trans (show kv_memF (sK S) x = 3 by unfold kv_memF; (try unfold ce_n); (try simp only [Int.toNat_natCast]); (try unfold ce_in at *); (repeat' split) <;> first | rfl | (exfalso; omega))
      refine ce_cVr dX8_addMember_33 hX8_refused kRX8_115 (m_X8_refused2 d hD) rfl rfl hD.1 rfl (by decide) (Nat.le_of_ble_eq_true rfl) (fun rcg1 cg1 hcg1 => ?_)
      obtain ⟨ecg1, hcg1⟩ := hcg1
      have ecg1 : rcg1 = nI 1 := ecg1
      subst ecg1
      have Mcg1 : ce_rM cg1 d S := by rw [hcg1]; exact rM_ref hr
      have zcg1 : cg1 d 0 = nI 2 := by rw [hcg1]; exact ce_up_at _ _ _ _
      have ycg1 : ce_fr d (d + 11) g cg1 := fun x hx => by rw [hcg1]; exact ce_up_ne _ _ _ (by omega)
      refine ce_if_eqN (tgt := 41) dX8_addMember_36 (by decide) rfl (by omega) (fun c_36 => ?_) (fun c_36 => ?_)
      · omega
      · refine ce_iconst (v := nI (0)) dX8_addMember_39 (by decide) ?_
        refine ce_iret dX8_addMember_40 rfl rfl (by decide) (by decide) ?_
        exact ⟨_, rfl, rfl, by rw [ef]; exact zcg1, Mcg1, ycg1⟩
  · refine ce_iconst (v := nI (1)) dX8_addMember_13 (by decide) ?_
    refine ce_goto (tgt := 33) dX8_addMember_14 (by decide) ?_
    have ef : f = 2 := hf.symm.trans (show kv_memF (sK S) x = 2 by unfold kv_memF; (try unfold ce_n); (try simp only [Int.toNat_natCast]); (try unfold ce_in at *); (repeat' split) <;> first | rfl | (exfalso; omega))
    refine ce_cVr dX8_addMember_33 hX8_refused kRX8_115 (m_X8_refused1 d hD) rfl rfl hD.1 rfl (by decide) (Nat.le_of_ble_eq_true rfl) (fun rcg1 cg1 hcg1 => ?_)
    obtain ⟨ecg1, hcg1⟩ := hcg1
    have ecg1 : rcg1 = nI 1 := ecg1
    subst ecg1
    have Mcg1 : ce_rM cg1 d S := by rw [hcg1]; exact rM_ref hr
    have zcg1 : cg1 d 0 = nI 1 := by rw [hcg1]; exact ce_up_at _ _ _ _
    have ycg1 : ce_fr d (d + 11) g cg1 := fun x hx => by rw [hcg1]; exact ce_up_ne _ _ _ (by omega)
    refine ce_if_eqN (tgt := 41) dX8_addMember_36 (by decide) rfl (by omega) (fun c_36 => ?_) (fun c_36 => ?_)
    · omega
    · refine ce_iconst (v := nI (0)) dX8_addMember_39 (by decide) ?_
      refine ce_iret dX8_addMember_40 rfl rfl (by decide) (by decide) ?_
      exact ⟨_, rfl, rfl, by rw [ef]; exact zcg1, Mcg1, ycg1⟩
set_option maxHeartbeats 2000000 in
set_option maxRecDepth 20000 in
theorem m_X8_addMember_ok {σ : ce_S} {g : ce_D} (d : Nat) (S : ks_S) (hD : ce_LM σ d) (hr : ce_rM g d S) (ok : ks_ok S) (p : Nat) (hp : p ≤ 999) (hm : sK S 0 0 < 6) (hf : kv_memF (sK S) (nI p) = 0) : ce_CT (ce_r 5) mX8_addMember [.ref (d), .int (nI (p))] σ g (ce_rv σ (fun z9 g1 => z9 = nI (sK S 0 0) ∧ g1 d 0 = nI 0 ∧ ce_rM g1 d (ks_act S (kv_enr (sK S) p) (sO S)) ∧ ce_fr d (d + 11) g g1)) ce_no := by
  have hB := ok.1.i7
  have hM := ok.1.me
  have hW := ok.1.wi
  have hst := ok.1.st
  have ep := nI_toInt (n := p) (by omega)
  refine ce_enter (by decide) rfl (Nat.le_of_ble_eq_true rfl) (L := [some (.ref (d)), some (.int (nI (p)))]) rfl ?_
  refine ce_aload_n dX8_addMember_0 rfl ?_
  refine ce_iload_n dX8_addMember_1 rfl ?_
  refine ce_i2l (v := (nI (p)).toInt64) dX8_addMember_2 rfl ?_
  refine ce_lconst (v := 0) dX8_addMember_3 (by decide) ?_
  refine ce_ldc2 dX8_addMember_4 kRX8_192 ?_
  refine ce_cSp dX8_addMember_7 hX8_in kRX8_108 (m_X8_in ((nI (p)).toInt64) (0) (999) ((0 : Int) ≤ ((p : Nat) : Int) ∧ ((p : Nat) : Int) ≤ (999 : Int)) (cr_io ((cr_tl (nI (p))).trans (nI_toInt (by omega))) (by decide) (by decide))) rfl rfl (by decide) (Nat.le_of_ble_eq_true rfl) ?_
  refine ce_if_neB (tgt := 17) dX8_addMember_10 (by decide) rfl (fun c_10 => ?_) (fun c_10 => ?_)
  · refine ce_aload_n dX8_addMember_17 rfl ?_
    refine ce_getR dX8_addMember_18 fRX8_16 hD.1 hD.2.1.2.2.1 ?_
    refine ce_iconst (v := nI (0)) dX8_addMember_21 (by decide) ?_
    refine ce_ialdv dX8_addMember_22 (hD.2.2.2.2.1).1 rfl (hD.2.2.2.2.1).2 (by omega) (by decide) (((hr.2.1).c0).trans (congrArg nI (by rw [kq_ne (by decide)]))) ?_
    refine ce_bipush (v := nI (6)) dX8_addMember_23 (by decide) ?_
    refine ce_icmp_neN (tgt := 32) dX8_addMember_25 (by decide) rfl rfl (by omega) (by omega) (fun c_25 => ?_) (fun c_25 => ?_)
    · refine ce_iconst (v := nI (0)) dX8_addMember_32 (by decide) ?_
      refine ce_cVr dX8_addMember_33 hX8_refused kRX8_115 (m_X8_refused0 d hD) rfl rfl hD.1 rfl (by decide) (Nat.le_of_ble_eq_true rfl) (fun rcg1 cg1 hcg1 => ?_)
      obtain ⟨ecg1, hcg1⟩ := hcg1
      have ecg1 : rcg1 = nI 0 := ecg1
      subst ecg1
      have Mcg1 : ce_rM cg1 d S := by rw [hcg1]; exact rM_ref hr
      have zcg1 : cg1 d 0 = nI 0 := by rw [hcg1]; exact ce_up_at _ _ _ _
      have ycg1 : ce_fr d (d + 11) g cg1 := fun x hx => by rw [hcg1]; exact ce_up_ne _ _ _ (by omega)
      refine ce_if_eqN (tgt := 41) dX8_addMember_36 (by decide) rfl (by omega) (fun c_36 => ?_) (fun c_36 => ?_)
      · refine ce_aload_n dX8_addMember_41 rfl ?_
        refine ce_cVu dX8_addMember_42 hX8_remember kRX8_194 (m_X8_remember d S hD Mcg1) rfl rfl hD.1 rfl (by decide) (Nat.le_of_ble_eq_true rfl) (fun cg2 hcg2 => ?_)
        have Rcg2 : cr_row (cg2 (d + 3)) (kq (sK S)) (sO S) := by rw [hcg2.2.2 _ (by omega) (by omega)]; exact Mcg1.2.1
        refine ce_aload_n dX8_addMember_45 rfl ?_
        refine ce_getR dX8_addMember_46 fRX8_16 hD.1 hD.2.1.2.2.1 ?_
        refine ce_iload_n dX8_addMember_49 rfl ?_
        refine ce_cSu dX8_addMember_50 hX8_addMemberTo kRX8_141 (n_addMemberTo ⟨(hD.2.2.2.2.1).1, (hD.2.2.2.2.1).2⟩ Rcg2 (p) (by omega)) rfl rfl (by decide) (Nat.le_of_ble_eq_true rfl) (fun cg3 hcg3 => ?_)
        refine ce_aload_n dX8_addMember_53 rfl ?_
        refine ce_getR dX8_addMember_54 fRX8_16 hD.1 hD.2.1.2.2.1 ?_
        refine ce_iconst (v := nI (0)) dX8_addMember_57 (by decide) ?_
        refine ce_ialdv dX8_addMember_58 (hD.2.2.2.2.1).1 rfl (hD.2.2.2.2.1).2 (by omega) (by decide) (((hcg3.1).c0).trans (congrArg nI (by rw [kq_ne (by decide)]))) ?_
        refine ce_iconst (v := nI (1)) dX8_addMember_59 (by decide) ?_
        refine ce_isub (z := nI (sK S 0 0)) dX8_addMember_60 (by rw [show kv_enr (sK S) p 0 0 = sK S 0 0 + 1 from kv_up_eq]; exact pk_sub (by omega)) ?_
        refine ce_iret dX8_addMember_61 rfl rfl (by decide) (by decide) ?_
        obtain ⟨w1, w2, w3⟩ := rM_act Mcg1 hcg2 hcg3.1 (fun x h8 h3 => hcg3.2 x h3)
        exact ⟨_, rfl, rfl, rfl, w2.trans zcg1, w1, fun x hx => (w3 x hx).trans (ycg1 x hx)⟩
      · omega
    · refine ce_iconst (v := nI (2)) dX8_addMember_28 (by decide) ?_
      refine ce_goto (tgt := 33) dX8_addMember_29 (by decide) ?_
      exact absurd (hf.symm.trans (show kv_memF (sK S) (nI p) = 3 by unfold kv_memF; (try unfold ce_n); (try simp only [ep, Int.toNat_natCast]); (try unfold ce_in at *); (repeat' split) <;> first | rfl | (exfalso; omega))) (by decide)
  · refine ce_iconst (v := nI (1)) dX8_addMember_13 (by decide) ?_
    refine ce_goto (tgt := 33) dX8_addMember_14 (by decide) ?_
    exact absurd (hf.symm.trans (show kv_memF (sK S) (nI p) = 2 by unfold kv_memF; (try unfold ce_n); (try simp only [ep, Int.toNat_natCast]); (try unfold ce_in at *); (repeat' split) <;> first | rfl | (exfalso; omega))) (by decide)
set_option maxHeartbeats 2000000 in
set_option maxRecDepth 20000 in
theorem m_X8_addWine_no {σ : ce_S} {g : ce_D} (d : Nat) (S : ks_S) (hD : ce_LM σ d) (hr : ce_rM g d S) (ok : ks_ok S) (x y : Int32) (f : Nat) (hf : kv_winF (sK S) x y = f) (h0 : f ≠ 0) : ce_CT (ce_r 5) mX8_addWine [.ref (d), .int (x), .int (y)] σ g (ce_rv σ (fun z9 g1 => g1 d 0 = nI (f - 1) ∧ ce_rM g1 d S ∧ ce_fr d (d + 11) g g1)) ce_no := by
  have hB := ok.1.i7
  have hM := ok.1.me
  have hW := ok.1.wi
  have hst := ok.1.st
  refine ce_enter (by decide) rfl (Nat.le_of_ble_eq_true rfl) (L := [some (.ref (d)), some (.int (x)), some (.int (y))]) rfl ?_
  refine ce_aload_n dX8_addWine_0 rfl ?_
  refine ce_iload_n dX8_addWine_1 rfl ?_
  refine ce_i2l (v := (x).toInt64) dX8_addWine_2 rfl ?_
  refine ce_lconst (v := 1) dX8_addWine_3 (by decide) ?_
  refine ce_ldc2 dX8_addWine_4 kRX8_197 ?_
  refine ce_cSp dX8_addWine_7 hX8_in kRX8_108 (m_X8_in ((x).toInt64) (1) (99) ((1 : Int) ≤ (x).toInt ∧ (x).toInt ≤ (99 : Int)) (cr_io ((cr_tl (x)).trans rfl) (by decide) (by decide))) rfl rfl (by decide) (Nat.le_of_ble_eq_true rfl) ?_
  refine ce_if_eqB (tgt := 25) dX8_addWine_10 (by decide) rfl (fun c_10 => ?_) (fun c_10 => ?_)
  · refine ce_iconst (v := nI (1)) dX8_addWine_25 (by decide) ?_
    refine ce_goto (tgt := 45) dX8_addWine_26 (by decide) ?_
    have ef : f = 2 := hf.symm.trans (show kv_winF (sK S) x y = 2 by unfold kv_winF; (try unfold ce_n); (try simp only [Int.toNat_natCast]); (try unfold ce_in at *); (repeat' split) <;> first | rfl | (exfalso; omega))
    refine ce_cVr dX8_addWine_45 hX8_refused kRX8_115 (m_X8_refused1 d hD) rfl rfl hD.1 rfl (by decide) (Nat.le_of_ble_eq_true rfl) (fun rcg1 cg1 hcg1 => ?_)
    obtain ⟨ecg1, hcg1⟩ := hcg1
    have ecg1 : rcg1 = nI 1 := ecg1
    subst ecg1
    have Mcg1 : ce_rM cg1 d S := by rw [hcg1]; exact rM_ref hr
    have zcg1 : cg1 d 0 = nI 1 := by rw [hcg1]; exact ce_up_at _ _ _ _
    have ycg1 : ce_fr d (d + 11) g cg1 := fun x hx => by rw [hcg1]; exact ce_up_ne _ _ _ (by omega)
    refine ce_if_eqN (tgt := 53) dX8_addWine_48 (by decide) rfl (by omega) (fun c_48 => ?_) (fun c_48 => ?_)
    · omega
    · refine ce_iconst (v := nI (0)) dX8_addWine_51 (by decide) ?_
      refine ce_iret dX8_addWine_52 rfl rfl (by decide) (by decide) ?_
      exact ⟨_, rfl, rfl, by rw [ef]; exact zcg1, Mcg1, ycg1⟩
  · refine ce_iload_n dX8_addWine_13 rfl ?_
    refine ce_i2l (v := (y).toInt64) dX8_addWine_14 rfl ?_
    refine ce_lconst (v := 0) dX8_addWine_15 (by decide) ?_
    refine ce_ldc2 dX8_addWine_16 kRX8_199 ?_
    refine ce_cSp dX8_addWine_19 hX8_in kRX8_108 (m_X8_in ((y).toInt64) (0) (60) ((0 : Int) ≤ (y).toInt ∧ (y).toInt ≤ (60 : Int)) (cr_io ((cr_tl (y)).trans rfl) (by decide) (by decide))) rfl rfl (by decide) (Nat.le_of_ble_eq_true rfl) ?_
    refine ce_if_neB (tgt := 29) dX8_addWine_22 (by decide) rfl (fun c_22 => ?_) (fun c_22 => ?_)
    · refine ce_aload_n dX8_addWine_29 rfl ?_
      refine ce_getR dX8_addWine_30 fRX8_16 hD.1 hD.2.1.2.2.1 ?_
      refine ce_iconst (v := nI (1)) dX8_addWine_33 (by decide) ?_
      refine ce_ialdv dX8_addWine_34 (hD.2.2.2.2.1).1 rfl (hD.2.2.2.2.1).2 (by omega) (by decide) (((hr.2.1).c1).trans (congrArg nI (by rw [kq_ne (by decide)]))) ?_
      refine ce_bipush (v := nI (6)) dX8_addWine_35 (by decide) ?_
      refine ce_icmp_neN (tgt := 44) dX8_addWine_37 (by decide) rfl rfl (by omega) (by omega) (fun c_37 => ?_) (fun c_37 => ?_)
      · refine ce_iconst (v := nI (0)) dX8_addWine_44 (by decide) ?_
        have ef : f = 0 := hf.symm.trans (show kv_winF (sK S) x y = 0 by unfold kv_winF; (try unfold ce_n); (try simp only [Int.toNat_natCast]); (try unfold ce_in at *); (repeat' split) <;> first | rfl | (exfalso; omega))
        exact absurd ef h0
      · refine ce_iconst (v := nI (2)) dX8_addWine_40 (by decide) ?_
        refine ce_goto (tgt := 45) dX8_addWine_41 (by decide) ?_
        have ef : f = 3 := hf.symm.trans (show kv_winF (sK S) x y = 3 by unfold kv_winF; (try unfold ce_n); (try simp only [Int.toNat_natCast]); (try unfold ce_in at *); (repeat' split) <;> first | rfl | (exfalso; omega))
        refine ce_cVr dX8_addWine_45 hX8_refused kRX8_115 (m_X8_refused2 d hD) rfl rfl hD.1 rfl (by decide) (Nat.le_of_ble_eq_true rfl) (fun rcg1 cg1 hcg1 => ?_)
        obtain ⟨ecg1, hcg1⟩ := hcg1
        have ecg1 : rcg1 = nI 1 := ecg1
        subst ecg1
        have Mcg1 : ce_rM cg1 d S := by rw [hcg1]; exact rM_ref hr
        have zcg1 : cg1 d 0 = nI 2 := by rw [hcg1]; exact ce_up_at _ _ _ _
        have ycg1 : ce_fr d (d + 11) g cg1 := fun x hx => by rw [hcg1]; exact ce_up_ne _ _ _ (by omega)
        refine ce_if_eqN (tgt := 53) dX8_addWine_48 (by decide) rfl (by omega) (fun c_48 => ?_) (fun c_48 => ?_)
        · omega
        · refine ce_iconst (v := nI (0)) dX8_addWine_51 (by decide) ?_
          refine ce_iret dX8_addWine_52 rfl rfl (by decide) (by decide) ?_
          exact ⟨_, rfl, rfl, by rw [ef]; exact zcg1, Mcg1, ycg1⟩
    · refine ce_iconst (v := nI (1)) dX8_addWine_25 (by decide) ?_
      refine ce_goto (tgt := 45) dX8_addWine_26 (by decide) ?_
      have ef : f = 2 := hf.symm.trans (show kv_winF (sK S) x y = 2 by unfold kv_winF; (try unfold ce_n); (try simp only [Int.toNat_natCast]); (try unfold ce_in at *); (repeat' split) <;> first | rfl | (exfalso; omega))
      refine ce_cVr dX8_addWine_45 hX8_refused kRX8_115 (m_X8_refused1 d hD) rfl rfl hD.1 rfl (by decide) (Nat.le_of_ble_eq_true rfl) (fun rcg1 cg1 hcg1 => ?_)
      obtain ⟨ecg1, hcg1⟩ := hcg1
      have ecg1 : rcg1 = nI 1 := ecg1
      subst ecg1
      have Mcg1 : ce_rM cg1 d S := by rw [hcg1]; exact rM_ref hr
      have zcg1 : cg1 d 0 = nI 1 := by rw [hcg1]; exact ce_up_at _ _ _ _
      have ycg1 : ce_fr d (d + 11) g cg1 := fun x hx => by rw [hcg1]; exact ce_up_ne _ _ _ (by omega)
      refine ce_if_eqN (tgt := 53) dX8_addWine_48 (by decide) rfl (by omega) (fun c_48 => ?_) (fun c_48 => ?_)
      · omega
      · refine ce_iconst (v := nI (0)) dX8_addWine_51 (by decide) ?_
        refine ce_iret dX8_addWine_52 rfl rfl (by decide) (by decide) ?_
        exact ⟨_, rfl, rfl, by rw [ef]; exact zcg1, Mcg1, ycg1⟩
set_option maxHeartbeats 2000000 in
set_option maxRecDepth 20000 in
theorem m_X8_addWine_ok {σ : ce_S} {g : ce_D} (d : Nat) (S : ks_S) (hD : ce_LM σ d) (hr : ce_rM g d S) (ok : ks_ok S) (p n : Nat) (hp : p ≤ 99) (hn : n ≤ 60) (hm : sK S 0 1 < 6) (hf : kv_winF (sK S) (nI p) (nI n) = 0) : ce_CT (ce_r 5) mX8_addWine [.ref (d), .int (nI (p)), .int (nI (n))] σ g (ce_rv σ (fun z9 g1 => z9 = nI (sK S 0 1) ∧ g1 d 0 = nI 0 ∧ ce_rM g1 d (ks_act S (kv_off (sK S) p n) (sO S)) ∧ ce_fr d (d + 11) g g1)) ce_no := by
  have hB := ok.1.i7
  have hM := ok.1.me
  have hW := ok.1.wi
  have hst := ok.1.st
  have ep := nI_toInt (n := p) (by omega)
  have en := nI_toInt (n := n) (by omega)
  refine ce_enter (by decide) rfl (Nat.le_of_ble_eq_true rfl) (L := [some (.ref (d)), some (.int (nI (p))), some (.int (nI (n)))]) rfl ?_
  refine ce_aload_n dX8_addWine_0 rfl ?_
  refine ce_iload_n dX8_addWine_1 rfl ?_
  refine ce_i2l (v := (nI (p)).toInt64) dX8_addWine_2 rfl ?_
  refine ce_lconst (v := 1) dX8_addWine_3 (by decide) ?_
  refine ce_ldc2 dX8_addWine_4 kRX8_197 ?_
  refine ce_cSp dX8_addWine_7 hX8_in kRX8_108 (m_X8_in ((nI (p)).toInt64) (1) (99) ((1 : Int) ≤ ((p : Nat) : Int) ∧ ((p : Nat) : Int) ≤ (99 : Int)) (cr_io ((cr_tl (nI (p))).trans (nI_toInt (by omega))) (by decide) (by decide))) rfl rfl (by decide) (Nat.le_of_ble_eq_true rfl) ?_
  refine ce_if_eqB (tgt := 25) dX8_addWine_10 (by decide) rfl (fun c_10 => ?_) (fun c_10 => ?_)
  · refine ce_iconst (v := nI (1)) dX8_addWine_25 (by decide) ?_
    refine ce_goto (tgt := 45) dX8_addWine_26 (by decide) ?_
    exact absurd (hf.symm.trans (show kv_winF (sK S) (nI p) (nI n) = 2 by unfold kv_winF; (try unfold ce_n); (try simp only [ep, en, Int.toNat_natCast]); (try unfold ce_in at *); (repeat' split) <;> first | rfl | (exfalso; omega))) (by decide)
  · refine ce_iload_n dX8_addWine_13 rfl ?_
    refine ce_i2l (v := (nI (n)).toInt64) dX8_addWine_14 rfl ?_
    refine ce_lconst (v := 0) dX8_addWine_15 (by decide) ?_
    refine ce_ldc2 dX8_addWine_16 kRX8_199 ?_
    refine ce_cSp dX8_addWine_19 hX8_in kRX8_108 (m_X8_in ((nI (n)).toInt64) (0) (60) ((0 : Int) ≤ ((n : Nat) : Int) ∧ ((n : Nat) : Int) ≤ (60 : Int)) (cr_io ((cr_tl (nI (n))).trans (nI_toInt (by omega))) (by decide) (by decide))) rfl rfl (by decide) (Nat.le_of_ble_eq_true rfl) ?_
    refine ce_if_neB (tgt := 29) dX8_addWine_22 (by decide) rfl (fun c_22 => ?_) (fun c_22 => ?_)
    · refine ce_aload_n dX8_addWine_29 rfl ?_
      refine ce_getR dX8_addWine_30 fRX8_16 hD.1 hD.2.1.2.2.1 ?_
      refine ce_iconst (v := nI (1)) dX8_addWine_33 (by decide) ?_
      refine ce_ialdv dX8_addWine_34 (hD.2.2.2.2.1).1 rfl (hD.2.2.2.2.1).2 (by omega) (by decide) (((hr.2.1).c1).trans (congrArg nI (by rw [kq_ne (by decide)]))) ?_
      refine ce_bipush (v := nI (6)) dX8_addWine_35 (by decide) ?_
      refine ce_icmp_neN (tgt := 44) dX8_addWine_37 (by decide) rfl rfl (by omega) (by omega) (fun c_37 => ?_) (fun c_37 => ?_)
      · refine ce_iconst (v := nI (0)) dX8_addWine_44 (by decide) ?_
        refine ce_cVr dX8_addWine_45 hX8_refused kRX8_115 (m_X8_refused0 d hD) rfl rfl hD.1 rfl (by decide) (Nat.le_of_ble_eq_true rfl) (fun rcg1 cg1 hcg1 => ?_)
        obtain ⟨ecg1, hcg1⟩ := hcg1
        have ecg1 : rcg1 = nI 0 := ecg1
        subst ecg1
        have Mcg1 : ce_rM cg1 d S := by rw [hcg1]; exact rM_ref hr
        have zcg1 : cg1 d 0 = nI 0 := by rw [hcg1]; exact ce_up_at _ _ _ _
        have ycg1 : ce_fr d (d + 11) g cg1 := fun x hx => by rw [hcg1]; exact ce_up_ne _ _ _ (by omega)
        refine ce_if_eqN (tgt := 53) dX8_addWine_48 (by decide) rfl (by omega) (fun c_48 => ?_) (fun c_48 => ?_)
        · refine ce_aload_n dX8_addWine_53 rfl ?_
          refine ce_cVu dX8_addWine_54 hX8_remember kRX8_194 (m_X8_remember d S hD Mcg1) rfl rfl hD.1 rfl (by decide) (Nat.le_of_ble_eq_true rfl) (fun cg2 hcg2 => ?_)
          have Rcg2 : cr_row (cg2 (d + 3)) (kq (sK S)) (sO S) := by rw [hcg2.2.2 _ (by omega) (by omega)]; exact Mcg1.2.1
          refine ce_aload_n dX8_addWine_57 rfl ?_
          refine ce_getR dX8_addWine_58 fRX8_16 hD.1 hD.2.1.2.2.1 ?_
          refine ce_iload_n dX8_addWine_61 rfl ?_
          refine ce_iload_n dX8_addWine_62 rfl ?_
          refine ce_cSu dX8_addWine_63 hX8_addWineTo kRX8_145 (n_addWineTo ⟨(hD.2.2.2.2.1).1, (hD.2.2.2.2.1).2⟩ Rcg2 (p) (n) (by omega)) rfl rfl (by decide) (Nat.le_of_ble_eq_true rfl) (fun cg3 hcg3 => ?_)
          refine ce_aload_n dX8_addWine_66 rfl ?_
          refine ce_getR dX8_addWine_67 fRX8_16 hD.1 hD.2.1.2.2.1 ?_
          refine ce_iconst (v := nI (1)) dX8_addWine_70 (by decide) ?_
          refine ce_ialdv dX8_addWine_71 (hD.2.2.2.2.1).1 rfl (hD.2.2.2.2.1).2 (by omega) (by decide) (((hcg3.1).c1).trans (congrArg nI (by rw [kq_ne (by decide)]))) ?_
          refine ce_iconst (v := nI (1)) dX8_addWine_72 (by decide) ?_
          refine ce_isub (z := nI (sK S 0 1)) dX8_addWine_73 (by rw [show kv_off (sK S) p n 0 1 = sK S 0 1 + 1 from kv_up_eq]; exact pk_sub (by omega)) ?_
          refine ce_iret dX8_addWine_74 rfl rfl (by decide) (by decide) ?_
          obtain ⟨w1, w2, w3⟩ := rM_act Mcg1 hcg2 hcg3.1 (fun x h8 h3 => hcg3.2 x h3)
          exact ⟨_, rfl, rfl, rfl, w2.trans zcg1, w1, fun x hx => (w3 x hx).trans (ycg1 x hx)⟩
        · omega
      · refine ce_iconst (v := nI (2)) dX8_addWine_40 (by decide) ?_
        refine ce_goto (tgt := 45) dX8_addWine_41 (by decide) ?_
        exact absurd (hf.symm.trans (show kv_winF (sK S) (nI p) (nI n) = 3 by unfold kv_winF; (try unfold ce_n); (try simp only [ep, en, Int.toNat_natCast]); (try unfold ce_in at *); (repeat' split) <;> first | rfl | (exfalso; omega))) (by decide)
    · refine ce_iconst (v := nI (1)) dX8_addWine_25 (by decide) ?_
      refine ce_goto (tgt := 45) dX8_addWine_26 (by decide) ?_
      exact absurd (hf.symm.trans (show kv_winF (sK S) (nI p) (nI n) = 2 by unfold kv_winF; (try unfold ce_n); (try simp only [ep, en, Int.toNat_natCast]); (try unfold ce_in at *); (repeat' split) <;> first | rfl | (exfalso; omega))) (by decide)
set_option maxHeartbeats 2000000 in
set_option maxRecDepth 20000 in
theorem m_X8_addBin_no {σ : ce_S} {g : ce_D} (d : Nat) (S : ks_S) (hD : ce_LM σ d) (hr : ce_rM g d S) (ok : ks_ok S) (x : Int32) (f : Nat) (hf : kv_binF (sK S) x = f) (h0 : f ≠ 0) : ce_CT (ce_r 5) mX8_addBin [.ref (d), .int (x)] σ g (ce_rv σ (fun z9 g1 => g1 d 0 = nI (f - 1) ∧ ce_rM g1 d S ∧ ce_fr d (d + 11) g g1)) ce_no := by
  have hB := ok.1.i7
  have hM := ok.1.me
  have hW := ok.1.wi
  have hst := ok.1.st
  refine ce_enter (by decide) rfl (Nat.le_of_ble_eq_true rfl) (L := [some (.ref (d)), some (.int (x))]) rfl ?_
  refine ce_aload_n dX8_addBin_0 rfl ?_
  refine ce_iload_n dX8_addBin_1 rfl ?_
  refine ce_i2l (v := (x).toInt64) dX8_addBin_2 rfl ?_
  refine ce_lconst (v := 1) dX8_addBin_3 (by decide) ?_
  refine ce_ldc2 dX8_addBin_4 kRX8_201 ?_
  refine ce_cSp dX8_addBin_7 hX8_in kRX8_108 (m_X8_in ((x).toInt64) (1) (24) ((1 : Int) ≤ (x).toInt ∧ (x).toInt ≤ (24 : Int)) (cr_io ((cr_tl (x)).trans rfl) (by decide) (by decide))) rfl rfl (by decide) (Nat.le_of_ble_eq_true rfl) ?_
  refine ce_if_neB (tgt := 17) dX8_addBin_10 (by decide) rfl (fun c_10 => ?_) (fun c_10 => ?_)
  · refine ce_aload_n dX8_addBin_17 rfl ?_
    refine ce_getR dX8_addBin_18 fRX8_16 hD.1 hD.2.1.2.2.1 ?_
    refine ce_iconst (v := nI (2)) dX8_addBin_21 (by decide) ?_
    refine ce_ialdv dX8_addBin_22 (hD.2.2.2.2.1).1 rfl (hD.2.2.2.2.1).2 (by omega) (by decide) (((hr.2.1).c2).trans (congrArg nI (by rw [kq_ne (by decide)]))) ?_
    refine ce_bipush (v := nI (8)) dX8_addBin_23 (by decide) ?_
    refine ce_icmp_neN (tgt := 32) dX8_addBin_25 (by decide) rfl rfl (by omega) (by omega) (fun c_25 => ?_) (fun c_25 => ?_)
    · refine ce_iconst (v := nI (0)) dX8_addBin_32 (by decide) ?_
      have ef : f = 0 := hf.symm.trans (show kv_binF (sK S) x = 0 by unfold kv_binF; (try unfold ce_n); (try simp only [Int.toNat_natCast]); (try unfold ce_in at *); (repeat' split) <;> first | rfl | (exfalso; omega))
      exact absurd ef h0
    · refine ce_iconst (v := nI (2)) dX8_addBin_28 (by decide) ?_
      refine ce_goto (tgt := 33) dX8_addBin_29 (by decide) ?_
      have ef : f = 3 := hf.symm.trans (show kv_binF (sK S) x = 3 by unfold kv_binF; (try unfold ce_n); (try simp only [Int.toNat_natCast]); (try unfold ce_in at *); (repeat' split) <;> first | rfl | (exfalso; omega))
      refine ce_cVr dX8_addBin_33 hX8_refused kRX8_115 (m_X8_refused2 d hD) rfl rfl hD.1 rfl (by decide) (Nat.le_of_ble_eq_true rfl) (fun rcg1 cg1 hcg1 => ?_)
      obtain ⟨ecg1, hcg1⟩ := hcg1
      have ecg1 : rcg1 = nI 1 := ecg1
      subst ecg1
      have Mcg1 : ce_rM cg1 d S := by rw [hcg1]; exact rM_ref hr
      have zcg1 : cg1 d 0 = nI 2 := by rw [hcg1]; exact ce_up_at _ _ _ _
      have ycg1 : ce_fr d (d + 11) g cg1 := fun x hx => by rw [hcg1]; exact ce_up_ne _ _ _ (by omega)
      refine ce_if_eqN (tgt := 41) dX8_addBin_36 (by decide) rfl (by omega) (fun c_36 => ?_) (fun c_36 => ?_)
      · omega
      · refine ce_iconst (v := nI (0)) dX8_addBin_39 (by decide) ?_
        refine ce_iret dX8_addBin_40 rfl rfl (by decide) (by decide) ?_
        exact ⟨_, rfl, rfl, by rw [ef]; exact zcg1, Mcg1, ycg1⟩
  · refine ce_iconst (v := nI (1)) dX8_addBin_13 (by decide) ?_
    refine ce_goto (tgt := 33) dX8_addBin_14 (by decide) ?_
    have ef : f = 2 := hf.symm.trans (show kv_binF (sK S) x = 2 by unfold kv_binF; (try unfold ce_n); (try simp only [Int.toNat_natCast]); (try unfold ce_in at *); (repeat' split) <;> first | rfl | (exfalso; omega))
    refine ce_cVr dX8_addBin_33 hX8_refused kRX8_115 (m_X8_refused1 d hD) rfl rfl hD.1 rfl (by decide) (Nat.le_of_ble_eq_true rfl) (fun rcg1 cg1 hcg1 => ?_)
    obtain ⟨ecg1, hcg1⟩ := hcg1
    have ecg1 : rcg1 = nI 1 := ecg1
    subst ecg1
    have Mcg1 : ce_rM cg1 d S := by rw [hcg1]; exact rM_ref hr
    have zcg1 : cg1 d 0 = nI 1 := by rw [hcg1]; exact ce_up_at _ _ _ _
    have ycg1 : ce_fr d (d + 11) g cg1 := fun x hx => by rw [hcg1]; exact ce_up_ne _ _ _ (by omega)
    refine ce_if_eqN (tgt := 41) dX8_addBin_36 (by decide) rfl (by omega) (fun c_36 => ?_) (fun c_36 => ?_)
    · omega
    · refine ce_iconst (v := nI (0)) dX8_addBin_39 (by decide) ?_
      refine ce_iret dX8_addBin_40 rfl rfl (by decide) (by decide) ?_
      exact ⟨_, rfl, rfl, by rw [ef]; exact zcg1, Mcg1, ycg1⟩
set_option maxHeartbeats 2000000 in
set_option maxRecDepth 20000 in
theorem m_X8_addBin_ok {σ : ce_S} {g : ce_D} (d : Nat) (S : ks_S) (hD : ce_LM σ d) (hr : ce_rM g d S) (ok : ks_ok S) (n : Nat) (hn : n ≤ 24) (hm : sK S 0 2 < 8) (hf : kv_binF (sK S) (nI n) = 0) : ce_CT (ce_r 5) mX8_addBin [.ref (d), .int (nI (n))] σ g (ce_rv σ (fun z9 g1 => z9 = nI (sK S 0 2) ∧ g1 d 0 = nI 0 ∧ ce_rM g1 d (ks_act S (kv_inst (sK S) n) (sO S)) ∧ ce_fr d (d + 11) g g1)) ce_no := by
  have hB := ok.1.i7
  have hM := ok.1.me
  have hW := ok.1.wi
  have hst := ok.1.st
  have en := nI_toInt (n := n) (by omega)
  refine ce_enter (by decide) rfl (Nat.le_of_ble_eq_true rfl) (L := [some (.ref (d)), some (.int (nI (n)))]) rfl ?_
  refine ce_aload_n dX8_addBin_0 rfl ?_
  refine ce_iload_n dX8_addBin_1 rfl ?_
  refine ce_i2l (v := (nI (n)).toInt64) dX8_addBin_2 rfl ?_
  refine ce_lconst (v := 1) dX8_addBin_3 (by decide) ?_
  refine ce_ldc2 dX8_addBin_4 kRX8_201 ?_
  refine ce_cSp dX8_addBin_7 hX8_in kRX8_108 (m_X8_in ((nI (n)).toInt64) (1) (24) ((1 : Int) ≤ ((n : Nat) : Int) ∧ ((n : Nat) : Int) ≤ (24 : Int)) (cr_io ((cr_tl (nI (n))).trans (nI_toInt (by omega))) (by decide) (by decide))) rfl rfl (by decide) (Nat.le_of_ble_eq_true rfl) ?_
  refine ce_if_neB (tgt := 17) dX8_addBin_10 (by decide) rfl (fun c_10 => ?_) (fun c_10 => ?_)
  · refine ce_aload_n dX8_addBin_17 rfl ?_
    refine ce_getR dX8_addBin_18 fRX8_16 hD.1 hD.2.1.2.2.1 ?_
    refine ce_iconst (v := nI (2)) dX8_addBin_21 (by decide) ?_
    refine ce_ialdv dX8_addBin_22 (hD.2.2.2.2.1).1 rfl (hD.2.2.2.2.1).2 (by omega) (by decide) (((hr.2.1).c2).trans (congrArg nI (by rw [kq_ne (by decide)]))) ?_
    refine ce_bipush (v := nI (8)) dX8_addBin_23 (by decide) ?_
    refine ce_icmp_neN (tgt := 32) dX8_addBin_25 (by decide) rfl rfl (by omega) (by omega) (fun c_25 => ?_) (fun c_25 => ?_)
    · refine ce_iconst (v := nI (0)) dX8_addBin_32 (by decide) ?_
      refine ce_cVr dX8_addBin_33 hX8_refused kRX8_115 (m_X8_refused0 d hD) rfl rfl hD.1 rfl (by decide) (Nat.le_of_ble_eq_true rfl) (fun rcg1 cg1 hcg1 => ?_)
      obtain ⟨ecg1, hcg1⟩ := hcg1
      have ecg1 : rcg1 = nI 0 := ecg1
      subst ecg1
      have Mcg1 : ce_rM cg1 d S := by rw [hcg1]; exact rM_ref hr
      have zcg1 : cg1 d 0 = nI 0 := by rw [hcg1]; exact ce_up_at _ _ _ _
      have ycg1 : ce_fr d (d + 11) g cg1 := fun x hx => by rw [hcg1]; exact ce_up_ne _ _ _ (by omega)
      refine ce_if_eqN (tgt := 41) dX8_addBin_36 (by decide) rfl (by omega) (fun c_36 => ?_) (fun c_36 => ?_)
      · refine ce_aload_n dX8_addBin_41 rfl ?_
        refine ce_cVu dX8_addBin_42 hX8_remember kRX8_194 (m_X8_remember d S hD Mcg1) rfl rfl hD.1 rfl (by decide) (Nat.le_of_ble_eq_true rfl) (fun cg2 hcg2 => ?_)
        have Rcg2 : cr_row (cg2 (d + 3)) (kq (sK S)) (sO S) := by rw [hcg2.2.2 _ (by omega) (by omega)]; exact Mcg1.2.1
        refine ce_aload_n dX8_addBin_45 rfl ?_
        refine ce_getR dX8_addBin_46 fRX8_16 hD.1 hD.2.1.2.2.1 ?_
        refine ce_iload_n dX8_addBin_49 rfl ?_
        refine ce_cSu dX8_addBin_50 hX8_addBinTo kRX8_148 (n_addBinTo ⟨(hD.2.2.2.2.1).1, (hD.2.2.2.2.1).2⟩ Rcg2 (n) (by omega)) rfl rfl (by decide) (Nat.le_of_ble_eq_true rfl) (fun cg3 hcg3 => ?_)
        refine ce_aload_n dX8_addBin_53 rfl ?_
        refine ce_getR dX8_addBin_54 fRX8_16 hD.1 hD.2.1.2.2.1 ?_
        refine ce_iconst (v := nI (2)) dX8_addBin_57 (by decide) ?_
        refine ce_ialdv dX8_addBin_58 (hD.2.2.2.2.1).1 rfl (hD.2.2.2.2.1).2 (by omega) (by decide) (((hcg3.1).c2).trans (congrArg nI (by rw [kq_ne (by decide)]))) ?_
        refine ce_iconst (v := nI (1)) dX8_addBin_59 (by decide) ?_
        refine ce_isub (z := nI (sK S 0 2)) dX8_addBin_60 (by rw [show kv_inst (sK S) n 0 2 = sK S 0 2 + 1 from kv_inst_b]; exact pk_sub (by omega)) ?_
        refine ce_iret dX8_addBin_61 rfl rfl (by decide) (by decide) ?_
        obtain ⟨w1, w2, w3⟩ := rM_act Mcg1 hcg2 hcg3.1 (fun x h8 h3 => hcg3.2 x h3)
        exact ⟨_, rfl, rfl, rfl, w2.trans zcg1, w1, fun x hx => (w3 x hx).trans (ycg1 x hx)⟩
      · omega
    · refine ce_iconst (v := nI (2)) dX8_addBin_28 (by decide) ?_
      refine ce_goto (tgt := 33) dX8_addBin_29 (by decide) ?_
      exact absurd (hf.symm.trans (show kv_binF (sK S) (nI n) = 3 by unfold kv_binF; (try unfold ce_n); (try simp only [en, Int.toNat_natCast]); (try unfold ce_in at *); (repeat' split) <;> first | rfl | (exfalso; omega))) (by decide)
  · refine ce_iconst (v := nI (1)) dX8_addBin_13 (by decide) ?_
    refine ce_goto (tgt := 33) dX8_addBin_14 (by decide) ?_
    exact absurd (hf.symm.trans (show kv_binF (sK S) (nI n) = 2 by unfold kv_binF; (try unfold ce_n); (try simp only [en, Int.toNat_natCast]); (try unfold ce_in at *); (repeat' split) <;> first | rfl | (exfalso; omega))) (by decide)
set_option maxHeartbeats 2000000 in
set_option maxRecDepth 20000 in
theorem m_X8_order_no {σ : ce_S} {g : ce_D} (d : Nat) (S : ks_S) (hD : ce_LM σ d) (hr : ce_rM g d S) (ok : ks_ok S) (x y n : Int32) (f : Nat) (hf : kv_ordF (sK S) x y n = f) (h0 : f ≠ 0) : ce_CT (ce_r 5) mX8_order [.ref (d), .int (x), .int (y), .int (n)] σ g (ce_rv σ (fun z9 g1 => g1 d 0 = nI (f) ∧ ce_rM g1 d S ∧ ce_fr d (d + 11) g g1)) ce_no := by
  have hB := ok.1.i7
  have hM := ok.1.me
  have hW := ok.1.wi
  have hst := ok.1.st
  refine ce_enter (by decide) rfl (Nat.le_of_ble_eq_true rfl) (L := [some (.ref (d)), some (.int (x)), some (.int (y)), some (.int (n)), none, none]) rfl ?_
  refine ce_aload_n dX8_order_0 rfl ?_
  refine ce_iload_n dX8_order_1 rfl ?_
  refine ce_cVp dX8_order_2 hX8_isMember kRX8_174 (n_isMember d (sK S) (sO S) hD hr.2.1 (x) (by omega)) rfl rfl hD.1 rfl (by decide) (Nat.le_of_ble_eq_true rfl) ?_
  refine ce_if_eqB (tgt := 20) dX8_order_5 (by decide) rfl (fun c_5 => ?_) (fun c_5 => ?_)
  · refine ce_iconst (v := nI (0)) dX8_order_20 (by decide) ?_
    refine ce_istore dX8_order_21 (Nat.le_of_ble_eq_true rfl) rfl ?_
    refine ce_aload_n dX8_order_23 rfl ?_
    refine ce_iload dX8_order_24 rfl ?_
    refine ce_if_neN (tgt := 33) dX8_order_26 (by decide) rfl (by omega) (fun c_26 => ?_) (fun c_26 => ?_)
    · omega
    · refine ce_iconst (v := nI (1)) dX8_order_29 (by decide) ?_
      refine ce_goto (tgt := 68) dX8_order_30 (by decide) ?_
      have ef : f = 1 := hf.symm.trans (show kv_ordF (sK S) x y n = 1 by unfold kv_ordF; (try unfold ce_n); (try simp only [Int.toNat_natCast]); (try unfold ce_in at *); (repeat' split) <;> first | rfl | (exfalso; omega))
      refine ce_cVr dX8_order_68 hX8_refused kRX8_115 (m_X8_refused1 d hD) rfl rfl hD.1 rfl (by decide) (Nat.le_of_ble_eq_true rfl) (fun rcg1 cg1 hcg1 => ?_)
      obtain ⟨ecg1, hcg1⟩ := hcg1
      have ecg1 : rcg1 = nI 1 := ecg1
      subst ecg1
      have Mcg1 : ce_rM cg1 d S := by rw [hcg1]; exact rM_ref hr
      have zcg1 : cg1 d 0 = nI 1 := by rw [hcg1]; exact ce_up_at _ _ _ _
      have ycg1 : ce_fr d (d + 11) g cg1 := fun x hx => by rw [hcg1]; exact ce_up_ne _ _ _ (by omega)
      refine ce_if_eqN (tgt := 76) dX8_order_71 (by decide) rfl (by omega) (fun c_71 => ?_) (fun c_71 => ?_)
      · omega
      · refine ce_iconst (v := nI (0)) dX8_order_74 (by decide) ?_
        refine ce_iret dX8_order_75 rfl rfl (by decide) (by decide) ?_
        exact ⟨_, rfl, rfl, by rw [ef]; exact zcg1, Mcg1, ycg1⟩
  · refine ce_aload_n dX8_order_8 rfl ?_
    refine ce_iload_n dX8_order_9 rfl ?_
    refine ce_cVp dX8_order_10 hX8_isWine kRX8_182 (n_isWine d (sK S) (sO S) hD hr.2.1 (y) (by omega)) rfl rfl hD.1 rfl (by decide) (Nat.le_of_ble_eq_true rfl) ?_
    refine ce_if_eqB (tgt := 20) dX8_order_13 (by decide) rfl (fun c_13 => ?_) (fun c_13 => ?_)
    · refine ce_iconst (v := nI (0)) dX8_order_20 (by decide) ?_
      refine ce_istore dX8_order_21 (Nat.le_of_ble_eq_true rfl) rfl ?_
      refine ce_aload_n dX8_order_23 rfl ?_
      refine ce_iload dX8_order_24 rfl ?_
      refine ce_if_neN (tgt := 33) dX8_order_26 (by decide) rfl (by omega) (fun c_26 => ?_) (fun c_26 => ?_)
      · omega
      · refine ce_iconst (v := nI (1)) dX8_order_29 (by decide) ?_
        refine ce_goto (tgt := 68) dX8_order_30 (by decide) ?_
        have ef : f = 1 := hf.symm.trans (show kv_ordF (sK S) x y n = 1 by unfold kv_ordF; (try unfold ce_n); (try simp only [Int.toNat_natCast]); (try unfold ce_in at *); (repeat' split) <;> first | rfl | (exfalso; omega))
        refine ce_cVr dX8_order_68 hX8_refused kRX8_115 (m_X8_refused1 d hD) rfl rfl hD.1 rfl (by decide) (Nat.le_of_ble_eq_true rfl) (fun rcg1 cg1 hcg1 => ?_)
        obtain ⟨ecg1, hcg1⟩ := hcg1
        have ecg1 : rcg1 = nI 1 := ecg1
        subst ecg1
        have Mcg1 : ce_rM cg1 d S := by rw [hcg1]; exact rM_ref hr
        have zcg1 : cg1 d 0 = nI 1 := by rw [hcg1]; exact ce_up_at _ _ _ _
        have ycg1 : ce_fr d (d + 11) g cg1 := fun x hx => by rw [hcg1]; exact ce_up_ne _ _ _ (by omega)
        refine ce_if_eqN (tgt := 76) dX8_order_71 (by decide) rfl (by omega) (fun c_71 => ?_) (fun c_71 => ?_)
        · omega
        · refine ce_iconst (v := nI (0)) dX8_order_74 (by decide) ?_
          refine ce_iret dX8_order_75 rfl rfl (by decide) (by decide) ?_
          exact ⟨_, rfl, rfl, by rw [ef]; exact zcg1, Mcg1, ycg1⟩
    · refine ce_iconst (v := nI (1)) dX8_order_16 (by decide) ?_
      refine ce_goto (tgt := 21) dX8_order_17 (by decide) ?_
      refine ce_istore dX8_order_21 (Nat.le_of_ble_eq_true rfl) rfl ?_
      refine ce_aload_n dX8_order_23 rfl ?_
      refine ce_iload dX8_order_24 rfl ?_
      refine ce_if_neN (tgt := 33) dX8_order_26 (by decide) rfl (by omega) (fun c_26 => ?_) (fun c_26 => ?_)
      · obtain ⟨m, hm, rfl⟩ := ce_in_ex c_5
        have em := nI_toInt (n := m) (by omega)
        obtain ⟨w, hw, rfl⟩ := ce_in_ex c_13
        have ew := nI_toInt (n := w) (by omega)
        have hl := ok.1.le (m := m) (w := w) (by omega) (by omega)
        have hs := hst w
        refine ce_iload_n dX8_order_33 rfl ?_
        refine ce_i2l (v := (n).toInt64) dX8_order_34 rfl ?_
        refine ce_lconst (v := 0) dX8_order_35 (by decide) ?_
        refine ce_ldc2 dX8_order_36 kRX8_199 ?_
        refine ce_cSp dX8_order_39 hX8_in kRX8_108 (m_X8_in ((n).toInt64) (0) (60) ((0 : Int) ≤ (n).toInt ∧ (n).toInt ≤ (60 : Int)) (cr_io ((cr_tl (n)).trans rfl) (by decide) (by decide))) rfl rfl (by decide) (Nat.le_of_ble_eq_true rfl) ?_
        refine ce_if_neB (tgt := 49) dX8_order_42 (by decide) rfl (fun c_42 => ?_) (fun c_42 => ?_)
        · refine ce_aload_n dX8_order_49 rfl ?_
          refine ce_getR dX8_order_50 fRX8_16 hD.1 hD.2.1.2.2.1 ?_
          refine ce_iload_n dX8_order_53 rfl ?_
          refine ce_cSp dX8_order_54 hX8_wineAt kRX8_62 (m_X8_wineAt (w)) rfl rfl (by decide) (Nat.le_of_ble_eq_true rfl) ?_
          refine ce_iconst (v := nI (3)) dX8_order_57 (by decide) ?_
          refine ce_iadd (z := nI (21 + 6 * w + 3)) dX8_order_58 (nI_add _ _) ?_
          refine ce_ialdv dX8_order_59 (hD.2.2.2.2.1).1 rfl (hD.2.2.2.2.1).2 (by omega) (by decide) (((hr.2.1).w3 (by omega)).trans (congrArg nI (by rw [kq_ne (by decide)]))) ?_
          refine ce_if_neN (tgt := 67) dX8_order_60 (by decide) rfl (by omega) (fun c_60 => ?_) (fun c_60 => ?_)
          · refine ce_iconst (v := nI (3)) dX8_order_67 (by decide) ?_
            have ef : f = 3 := hf.symm.trans (show kv_ordF (sK S) (nI m) (nI w) n = 3 by unfold kv_ordF; (try unfold ce_n); (try simp only [em, ew, Int.toNat_natCast]); (try unfold ce_in at *); (repeat' split) <;> first | rfl | (exfalso; omega))
            refine ce_cVr dX8_order_68 hX8_refused kRX8_115 (m_X8_refused3 d hD) rfl rfl hD.1 rfl (by decide) (Nat.le_of_ble_eq_true rfl) (fun rcg1 cg1 hcg1 => ?_)
            obtain ⟨ecg1, hcg1⟩ := hcg1
            have ecg1 : rcg1 = nI 1 := ecg1
            subst ecg1
            have Mcg1 : ce_rM cg1 d S := by rw [hcg1]; exact rM_ref hr
            have zcg1 : cg1 d 0 = nI 3 := by rw [hcg1]; exact ce_up_at _ _ _ _
            have ycg1 : ce_fr d (d + 11) g cg1 := fun x hx => by rw [hcg1]; exact ce_up_ne _ _ _ (by omega)
            refine ce_if_eqN (tgt := 76) dX8_order_71 (by decide) rfl (by omega) (fun c_71 => ?_) (fun c_71 => ?_)
            · omega
            · refine ce_iconst (v := nI (0)) dX8_order_74 (by decide) ?_
              refine ce_iret dX8_order_75 rfl rfl (by decide) (by decide) ?_
              exact ⟨_, rfl, rfl, by rw [ef]; exact zcg1, Mcg1, ycg1⟩
          · refine ce_iconst (v := nI (0)) dX8_order_63 (by decide) ?_
            refine ce_goto (tgt := 68) dX8_order_64 (by decide) ?_
            have ef : f = 0 := hf.symm.trans (show kv_ordF (sK S) (nI m) (nI w) n = 0 by unfold kv_ordF; (try unfold ce_n); (try simp only [em, ew, Int.toNat_natCast]); (try unfold ce_in at *); (repeat' split) <;> first | rfl | (exfalso; omega))
            exact absurd ef h0
        · refine ce_iconst (v := nI (2)) dX8_order_45 (by decide) ?_
          refine ce_goto (tgt := 68) dX8_order_46 (by decide) ?_
          have ef : f = 2 := hf.symm.trans (show kv_ordF (sK S) (nI m) (nI w) n = 2 by unfold kv_ordF; (try unfold ce_n); (try simp only [em, ew, Int.toNat_natCast]); (try unfold ce_in at *); (repeat' split) <;> first | rfl | (exfalso; omega))
          refine ce_cVr dX8_order_68 hX8_refused kRX8_115 (m_X8_refused2 d hD) rfl rfl hD.1 rfl (by decide) (Nat.le_of_ble_eq_true rfl) (fun rcg1 cg1 hcg1 => ?_)
          obtain ⟨ecg1, hcg1⟩ := hcg1
          have ecg1 : rcg1 = nI 1 := ecg1
          subst ecg1
          have Mcg1 : ce_rM cg1 d S := by rw [hcg1]; exact rM_ref hr
          have zcg1 : cg1 d 0 = nI 2 := by rw [hcg1]; exact ce_up_at _ _ _ _
          have ycg1 : ce_fr d (d + 11) g cg1 := fun x hx => by rw [hcg1]; exact ce_up_ne _ _ _ (by omega)
          refine ce_if_eqN (tgt := 76) dX8_order_71 (by decide) rfl (by omega) (fun c_71 => ?_) (fun c_71 => ?_)
          · omega
          · refine ce_iconst (v := nI (0)) dX8_order_74 (by decide) ?_
            refine ce_iret dX8_order_75 rfl rfl (by decide) (by decide) ?_
            exact ⟨_, rfl, rfl, by rw [ef]; exact zcg1, Mcg1, ycg1⟩
      · omega
set_option maxHeartbeats 2000000 in
set_option maxRecDepth 20000 in
theorem m_X8_order_ok {σ : ce_S} {g : ce_D} (d : Nat) (S : ks_S) (hD : ce_LM σ d) (hr : ce_rM g d S) (ok : ks_ok S) (m w q : Nat) (hm : m < sK S 0 0) (hw : w < sK S 0 1) (hq9 : q ≤ 60) (hf : kv_ordF (sK S) (nI m) (nI w) (nI q) = 0) : ce_CT (ce_r 5) mX8_order [.ref (d), .int (nI (m)), .int (nI (w)), .int (nI (q))] σ g (ce_rv σ (fun z9 g1 => z9 = nI (sK S 7 (m * 6 + w)) ∧ g1 d 0 = nI 0 ∧ ce_rM g1 d (ks_act S (kv_ord (sK S) m w q) (sO S)) ∧ ce_fr d (d + 11) g g1)) ce_no := by
  have hB := ok.1.i7
  have hM := ok.1.me
  have hW := ok.1.wi
  have hst := ok.1.st
  have em := nI_toInt (n := m) (by omega)
  have ew := nI_toInt (n := w) (by omega)
  have eq := nI_toInt (n := q) (by omega)
  have hl := ok.1.le (m := m) (w := w) (by omega) (by omega)
  have hs := hst w
  refine ce_enter (by decide) rfl (Nat.le_of_ble_eq_true rfl) (L := [some (.ref (d)), some (.int (nI (m))), some (.int (nI (w))), some (.int (nI (q))), none, none]) rfl ?_
  refine ce_aload_n dX8_order_0 rfl ?_
  refine ce_iload_n dX8_order_1 rfl ?_
  refine ce_cVp dX8_order_2 hX8_isMember kRX8_174 (n_isMember d (sK S) (sO S) hD hr.2.1 (nI (m)) (by omega)) rfl rfl hD.1 rfl (by decide) (Nat.le_of_ble_eq_true rfl) ?_
  refine ce_if_eqB (tgt := 20) dX8_order_5 (by decide) rfl (fun c_5 => ?_) (fun c_5 => ?_)
  · refine ce_iconst (v := nI (0)) dX8_order_20 (by decide) ?_
    refine ce_istore dX8_order_21 (Nat.le_of_ble_eq_true rfl) rfl ?_
    refine ce_aload_n dX8_order_23 rfl ?_
    refine ce_iload dX8_order_24 rfl ?_
    refine ce_if_neN (tgt := 33) dX8_order_26 (by decide) rfl (by omega) (fun c_26 => ?_) (fun c_26 => ?_)
    · omega
    · refine ce_iconst (v := nI (1)) dX8_order_29 (by decide) ?_
      refine ce_goto (tgt := 68) dX8_order_30 (by decide) ?_
      exact absurd (hf.symm.trans (show kv_ordF (sK S) (nI m) (nI w) (nI q) = 1 by unfold kv_ordF; (try unfold ce_n); (try simp only [em, ew, eq, Int.toNat_natCast]); (try unfold ce_in at *); (repeat' split) <;> first | rfl | (exfalso; omega))) (by decide)
  · refine ce_aload_n dX8_order_8 rfl ?_
    refine ce_iload_n dX8_order_9 rfl ?_
    refine ce_cVp dX8_order_10 hX8_isWine kRX8_182 (n_isWine d (sK S) (sO S) hD hr.2.1 (nI (w)) (by omega)) rfl rfl hD.1 rfl (by decide) (Nat.le_of_ble_eq_true rfl) ?_
    refine ce_if_eqB (tgt := 20) dX8_order_13 (by decide) rfl (fun c_13 => ?_) (fun c_13 => ?_)
    · refine ce_iconst (v := nI (0)) dX8_order_20 (by decide) ?_
      refine ce_istore dX8_order_21 (Nat.le_of_ble_eq_true rfl) rfl ?_
      refine ce_aload_n dX8_order_23 rfl ?_
      refine ce_iload dX8_order_24 rfl ?_
      refine ce_if_neN (tgt := 33) dX8_order_26 (by decide) rfl (by omega) (fun c_26 => ?_) (fun c_26 => ?_)
      · omega
      · refine ce_iconst (v := nI (1)) dX8_order_29 (by decide) ?_
        refine ce_goto (tgt := 68) dX8_order_30 (by decide) ?_
        exact absurd (hf.symm.trans (show kv_ordF (sK S) (nI m) (nI w) (nI q) = 1 by unfold kv_ordF; (try unfold ce_n); (try simp only [em, ew, eq, Int.toNat_natCast]); (try unfold ce_in at *); (repeat' split) <;> first | rfl | (exfalso; omega))) (by decide)
    · refine ce_iconst (v := nI (1)) dX8_order_16 (by decide) ?_
      refine ce_goto (tgt := 21) dX8_order_17 (by decide) ?_
      refine ce_istore dX8_order_21 (Nat.le_of_ble_eq_true rfl) rfl ?_
      refine ce_aload_n dX8_order_23 rfl ?_
      refine ce_iload dX8_order_24 rfl ?_
      refine ce_if_neN (tgt := 33) dX8_order_26 (by decide) rfl (by omega) (fun c_26 => ?_) (fun c_26 => ?_)
      · refine ce_iload_n dX8_order_33 rfl ?_
        refine ce_i2l (v := (nI (q)).toInt64) dX8_order_34 rfl ?_
        refine ce_lconst (v := 0) dX8_order_35 (by decide) ?_
        refine ce_ldc2 dX8_order_36 kRX8_199 ?_
        refine ce_cSp dX8_order_39 hX8_in kRX8_108 (m_X8_in ((nI (q)).toInt64) (0) (60) ((0 : Int) ≤ ((q : Nat) : Int) ∧ ((q : Nat) : Int) ≤ (60 : Int)) (cr_io ((cr_tl (nI (q))).trans (nI_toInt (by omega))) (by decide) (by decide))) rfl rfl (by decide) (Nat.le_of_ble_eq_true rfl) ?_
        refine ce_if_neB (tgt := 49) dX8_order_42 (by decide) rfl (fun c_42 => ?_) (fun c_42 => ?_)
        · refine ce_aload_n dX8_order_49 rfl ?_
          refine ce_getR dX8_order_50 fRX8_16 hD.1 hD.2.1.2.2.1 ?_
          refine ce_iload_n dX8_order_53 rfl ?_
          refine ce_cSp dX8_order_54 hX8_wineAt kRX8_62 (m_X8_wineAt (w)) rfl rfl (by decide) (Nat.le_of_ble_eq_true rfl) ?_
          refine ce_iconst (v := nI (3)) dX8_order_57 (by decide) ?_
          refine ce_iadd (z := nI (21 + 6 * w + 3)) dX8_order_58 (nI_add _ _) ?_
          refine ce_ialdv dX8_order_59 (hD.2.2.2.2.1).1 rfl (hD.2.2.2.2.1).2 (by omega) (by decide) (((hr.2.1).w3 (by omega)).trans (congrArg nI (by rw [kq_ne (by decide)]))) ?_
          refine ce_if_neN (tgt := 67) dX8_order_60 (by decide) rfl (by omega) (fun c_60 => ?_) (fun c_60 => ?_)
          · refine ce_iconst (v := nI (3)) dX8_order_67 (by decide) ?_
            exact absurd (hf.symm.trans (show kv_ordF (sK S) (nI m) (nI w) (nI q) = 3 by unfold kv_ordF; (try unfold ce_n); (try simp only [em, ew, eq, Int.toNat_natCast]); (try unfold ce_in at *); (repeat' split) <;> first | rfl | (exfalso; omega))) (by decide)
          · refine ce_iconst (v := nI (0)) dX8_order_63 (by decide) ?_
            refine ce_goto (tgt := 68) dX8_order_64 (by decide) ?_
            refine ce_cVr dX8_order_68 hX8_refused kRX8_115 (m_X8_refused0 d hD) rfl rfl hD.1 rfl (by decide) (Nat.le_of_ble_eq_true rfl) (fun rcg1 cg1 hcg1 => ?_)
            obtain ⟨ecg1, hcg1⟩ := hcg1
            have ecg1 : rcg1 = nI 0 := ecg1
            subst ecg1
            have Mcg1 : ce_rM cg1 d S := by rw [hcg1]; exact rM_ref hr
            have zcg1 : cg1 d 0 = nI 0 := by rw [hcg1]; exact ce_up_at _ _ _ _
            have ycg1 : ce_fr d (d + 11) g cg1 := fun x hx => by rw [hcg1]; exact ce_up_ne _ _ _ (by omega)
            refine ce_if_eqN (tgt := 76) dX8_order_71 (by decide) rfl (by omega) (fun c_71 => ?_) (fun c_71 => ?_)
            · refine ce_aload_n dX8_order_76 rfl ?_
              refine ce_cVu dX8_order_77 hX8_remember kRX8_194 (m_X8_remember d S hD Mcg1) rfl rfl hD.1 rfl (by decide) (Nat.le_of_ble_eq_true rfl) (fun cg2 hcg2 => ?_)
              have Rcg2 : cr_row (cg2 (d + 3)) (kq (sK S)) (sO S) := by rw [hcg2.2.2 _ (by omega) (by omega)]; exact Mcg1.2.1
              refine ce_aload_n dX8_order_80 rfl ?_
              refine ce_getR dX8_order_81 fRX8_16 hD.1 hD.2.1.2.2.1 ?_
              refine ce_iload_n dX8_order_84 rfl ?_
              refine ce_iload_n dX8_order_85 rfl ?_
              refine ce_cSp dX8_order_86 hX8_hold kRX8_54 (m_X8_hold (m) (w)) rfl rfl (by decide) (Nat.le_of_ble_eq_true rfl) ?_
              refine ce_ialdv dX8_order_89 (hD.2.2.2.2.1).1 rfl (hD.2.2.2.2.1).2 (by omega) (by decide) (((Rcg2).h0 (by omega) (by omega)).trans (congrArg nI (by rw [kq_ne (by decide)]))) ?_
              refine ce_istore dX8_order_90 (Nat.le_of_ble_eq_true rfl) rfl ?_
              refine ce_aload_n dX8_order_92 rfl ?_
              refine ce_getR dX8_order_93 fRX8_16 hD.1 hD.2.1.2.2.1 ?_
              refine ce_iload_n dX8_order_96 rfl ?_
              refine ce_iload_n dX8_order_97 rfl ?_
              refine ce_cSp dX8_order_98 hX8_hold kRX8_54 (m_X8_hold (m) (w)) rfl rfl (by decide) (Nat.le_of_ble_eq_true rfl) ?_
              refine ce_iload_n dX8_order_101 rfl ?_
              refine ce_iast dX8_order_102 (hD.2.2.2.2.1).1 rfl (hD.2.2.2.2.1).2 (by omega) (by decide) ?_
              generalize hcg3 : ce_up cg2 (d + 3) (81 + 18 * m + 3 * w) (nI (q)) = cg3
              have rcg3 : cr_row (cg3 (d + 3)) (kq (kv_ord (sK S) m w q)) (sO S) := by rw [← kq_ord, ← hcg3, ce_up_eq]; exact (Rcg2).uh0 (by omega) (by omega) (q)
              have fcg3 : ∀ x, x ≠ d + 3 → cg3 x = cg2 x := fun x h3 => by rw [← hcg3]; exact ce_up_ne _ _ _ h3
              refine ce_iload dX8_order_103 rfl ?_
              refine ce_iret dX8_order_105 rfl rfl (by decide) (by decide) ?_
              obtain ⟨w1, w2, w3⟩ := rM_act Mcg1 hcg2 rcg3 (fun x _ h3 => fcg3 x h3)
              exact ⟨_, rfl, rfl, rfl, w2.trans zcg1, w1, fun x hx => (w3 x hx).trans (ycg1 x hx)⟩
            · omega
        · refine ce_iconst (v := nI (2)) dX8_order_45 (by decide) ?_
          refine ce_goto (tgt := 68) dX8_order_46 (by decide) ?_
          exact absurd (hf.symm.trans (show kv_ordF (sK S) (nI m) (nI w) (nI q) = 2 by unfold kv_ordF; (try unfold ce_n); (try simp only [em, ew, eq, Int.toNat_natCast]); (try unfold ce_in at *); (repeat' split) <;> first | rfl | (exfalso; omega))) (by decide)
      · omega
set_option maxHeartbeats 2000000 in
set_option maxRecDepth 20000 in
theorem m_X8_allocate_no {σ : ce_S} {g : ce_D} (d : Nat) (S : ks_S) (hD : ce_LM σ d) (hr : ce_rM g d S) (ok : ks_ok S) (y : Int32) (f : Nat) (hf : kv_allF (sK S) y = f) (h0 : f ≠ 0) : ce_CT (ce_r 5) mX8_allocate [.ref (d), .int (y)] σ g (ce_rv σ (fun z9 g1 => g1 d 0 = nI ((f + 1) / 2) ∧ ce_rM g1 d S ∧ ce_fr d (d + 11) g g1)) ce_no := by
  have hB := ok.1.i7
  have hM := ok.1.me
  have hW := ok.1.wi
  have hst := ok.1.st
  refine ce_enter (by decide) rfl (Nat.le_of_ble_eq_true rfl) (L := [some (.ref (d)), some (.int (y))]) rfl ?_
  refine ce_aload_n dX8_allocate_0 rfl ?_
  refine ce_aload_n dX8_allocate_1 rfl ?_
  refine ce_iload_n dX8_allocate_2 rfl ?_
  refine ce_cVp dX8_allocate_3 hX8_isWine kRX8_182 (n_isWine d (sK S) (sO S) hD hr.2.1 (y) (by omega)) rfl rfl hD.1 rfl (by decide) (Nat.le_of_ble_eq_true rfl) ?_
  refine ce_if_neB (tgt := 13) dX8_allocate_6 (by decide) rfl (fun c_6 => ?_) (fun c_6 => ?_)
  · obtain ⟨w, hw, rfl⟩ := ce_in_ex c_6
    have ew := nI_toInt (n := w) (by omega)
    have hs := hst w
    refine ce_aload_n dX8_allocate_13 rfl ?_
    refine ce_getR dX8_allocate_14 fRX8_16 hD.1 hD.2.1.2.2.1 ?_
    refine ce_iload_n dX8_allocate_17 rfl ?_
    refine ce_cSp dX8_allocate_18 hX8_wineAt kRX8_62 (m_X8_wineAt (w)) rfl rfl (by decide) (Nat.le_of_ble_eq_true rfl) ?_
    refine ce_iconst (v := nI (3)) dX8_allocate_21 (by decide) ?_
    refine ce_iadd (z := nI (21 + 6 * w + 3)) dX8_allocate_22 (nI_add _ _) ?_
    refine ce_ialdv dX8_allocate_23 (hD.2.2.2.2.1).1 rfl (hD.2.2.2.2.1).2 (by omega) (by decide) (((hr.2.1).w3 (by omega)).trans (congrArg nI (by rw [kq_ne (by decide)]))) ?_
    refine ce_if_neN (tgt := 31) dX8_allocate_24 (by decide) rfl (by omega) (fun c_24 => ?_) (fun c_24 => ?_)
    · refine ce_iconst (v := nI (2)) dX8_allocate_31 (by decide) ?_
      have ef : f = 3 := hf.symm.trans (show kv_allF (sK S) (nI w) = 3 by unfold kv_allF; (try unfold ce_n); (try simp only [ew, Int.toNat_natCast]); (try unfold ce_in at *); (repeat' split) <;> first | rfl | (exfalso; omega))
      refine ce_cVr dX8_allocate_32 hX8_refused kRX8_115 (m_X8_refused2 d hD) rfl rfl hD.1 rfl (by decide) (Nat.le_of_ble_eq_true rfl) (fun rcg1 cg1 hcg1 => ?_)
      obtain ⟨ecg1, hcg1⟩ := hcg1
      have ecg1 : rcg1 = nI 1 := ecg1
      subst ecg1
      have Mcg1 : ce_rM cg1 d S := by rw [hcg1]; exact rM_ref hr
      have zcg1 : cg1 d 0 = nI 2 := by rw [hcg1]; exact ce_up_at _ _ _ _
      have ycg1 : ce_fr d (d + 11) g cg1 := fun x hx => by rw [hcg1]; exact ce_up_ne _ _ _ (by omega)
      refine ce_if_eqN (tgt := 40) dX8_allocate_35 (by decide) rfl (by omega) (fun c_35 => ?_) (fun c_35 => ?_)
      · omega
      · refine ce_iconst (v := nI (0)) dX8_allocate_38 (by decide) ?_
        refine ce_iret dX8_allocate_39 rfl rfl (by decide) (by decide) ?_
        exact ⟨_, rfl, rfl, by rw [ef]; exact zcg1, Mcg1, ycg1⟩
    · refine ce_iconst (v := nI (0)) dX8_allocate_27 (by decide) ?_
      refine ce_goto (tgt := 32) dX8_allocate_28 (by decide) ?_
      have ef : f = 0 := hf.symm.trans (show kv_allF (sK S) (nI w) = 0 by unfold kv_allF; (try unfold ce_n); (try simp only [ew, Int.toNat_natCast]); (try unfold ce_in at *); (repeat' split) <;> first | rfl | (exfalso; omega))
      exact absurd ef h0
  · refine ce_iconst (v := nI (1)) dX8_allocate_9 (by decide) ?_
    refine ce_goto (tgt := 32) dX8_allocate_10 (by decide) ?_
    have ef : f = 1 := hf.symm.trans (show kv_allF (sK S) y = 1 by unfold kv_allF; (try unfold ce_n); (try simp only [Int.toNat_natCast]); (try unfold ce_in at *); (repeat' split) <;> first | rfl | (exfalso; omega))
    refine ce_cVr dX8_allocate_32 hX8_refused kRX8_115 (m_X8_refused1 d hD) rfl rfl hD.1 rfl (by decide) (Nat.le_of_ble_eq_true rfl) (fun rcg1 cg1 hcg1 => ?_)
    obtain ⟨ecg1, hcg1⟩ := hcg1
    have ecg1 : rcg1 = nI 1 := ecg1
    subst ecg1
    have Mcg1 : ce_rM cg1 d S := by rw [hcg1]; exact rM_ref hr
    have zcg1 : cg1 d 0 = nI 1 := by rw [hcg1]; exact ce_up_at _ _ _ _
    have ycg1 : ce_fr d (d + 11) g cg1 := fun x hx => by rw [hcg1]; exact ce_up_ne _ _ _ (by omega)
    refine ce_if_eqN (tgt := 40) dX8_allocate_35 (by decide) rfl (by omega) (fun c_35 => ?_) (fun c_35 => ?_)
    · omega
    · refine ce_iconst (v := nI (0)) dX8_allocate_38 (by decide) ?_
      refine ce_iret dX8_allocate_39 rfl rfl (by decide) (by decide) ?_
      exact ⟨_, rfl, rfl, by rw [ef]; exact zcg1, Mcg1, ycg1⟩
set_option maxHeartbeats 2000000 in
set_option maxRecDepth 20000 in
theorem m_X8_allocate_ok {σ : ce_S} {g : ce_D} (d : Nat) (S : ks_S) (hD : ce_LM σ d) (hr : ce_rM g d S) (ok : ks_ok S) (w : Nat) (hw : w < sK S 0 1) (hf : kv_allF (sK S) (nI w) = 0) : ce_CT (ce_r 5) mX8_allocate [.ref (d), .int (nI (w))] σ g (ce_rv σ (fun z9 g1 => z9 = nI (kv_sum (kv_share w 60 (sK S)) 8 w) ∧ g1 d 0 = nI 0 ∧ ce_rM g1 d (ks_act S (kv_all (sK S) w) (ko_all (sK S) w (sO S))) ∧ ce_fr d (d + 11) g g1)) ce_no := by
  have hB := ok.1.i7
  have hM := ok.1.me
  have hW := ok.1.wi
  have hst := ok.1.st
  have ew := nI_toInt (n := w) (by omega)
  have hs := hst w
  refine ce_enter (by decide) rfl (Nat.le_of_ble_eq_true rfl) (L := [some (.ref (d)), some (.int (nI (w)))]) rfl ?_
  refine ce_aload_n dX8_allocate_0 rfl ?_
  refine ce_aload_n dX8_allocate_1 rfl ?_
  refine ce_iload_n dX8_allocate_2 rfl ?_
  refine ce_cVp dX8_allocate_3 hX8_isWine kRX8_182 (n_isWine d (sK S) (sO S) hD hr.2.1 (nI (w)) (by omega)) rfl rfl hD.1 rfl (by decide) (Nat.le_of_ble_eq_true rfl) ?_
  refine ce_if_neB (tgt := 13) dX8_allocate_6 (by decide) rfl (fun c_6 => ?_) (fun c_6 => ?_)
  · refine ce_aload_n dX8_allocate_13 rfl ?_
    refine ce_getR dX8_allocate_14 fRX8_16 hD.1 hD.2.1.2.2.1 ?_
    refine ce_iload_n dX8_allocate_17 rfl ?_
    refine ce_cSp dX8_allocate_18 hX8_wineAt kRX8_62 (m_X8_wineAt (w)) rfl rfl (by decide) (Nat.le_of_ble_eq_true rfl) ?_
    refine ce_iconst (v := nI (3)) dX8_allocate_21 (by decide) ?_
    refine ce_iadd (z := nI (21 + 6 * w + 3)) dX8_allocate_22 (nI_add _ _) ?_
    refine ce_ialdv dX8_allocate_23 (hD.2.2.2.2.1).1 rfl (hD.2.2.2.2.1).2 (by omega) (by decide) (((hr.2.1).w3 (by omega)).trans (congrArg nI (by rw [kq_ne (by decide)]))) ?_
    refine ce_if_neN (tgt := 31) dX8_allocate_24 (by decide) rfl (by omega) (fun c_24 => ?_) (fun c_24 => ?_)
    · refine ce_iconst (v := nI (2)) dX8_allocate_31 (by decide) ?_
      exact absurd (hf.symm.trans (show kv_allF (sK S) (nI w) = 3 by unfold kv_allF; (try unfold ce_n); (try simp only [ew, Int.toNat_natCast]); (try unfold ce_in at *); (repeat' split) <;> first | rfl | (exfalso; omega))) (by decide)
    · refine ce_iconst (v := nI (0)) dX8_allocate_27 (by decide) ?_
      refine ce_goto (tgt := 32) dX8_allocate_28 (by decide) ?_
      refine ce_cVr dX8_allocate_32 hX8_refused kRX8_115 (m_X8_refused0 d hD) rfl rfl hD.1 rfl (by decide) (Nat.le_of_ble_eq_true rfl) (fun rcg1 cg1 hcg1 => ?_)
      obtain ⟨ecg1, hcg1⟩ := hcg1
      have ecg1 : rcg1 = nI 0 := ecg1
      subst ecg1
      have Mcg1 : ce_rM cg1 d S := by rw [hcg1]; exact rM_ref hr
      have zcg1 : cg1 d 0 = nI 0 := by rw [hcg1]; exact ce_up_at _ _ _ _
      have ycg1 : ce_fr d (d + 11) g cg1 := fun x hx => by rw [hcg1]; exact ce_up_ne _ _ _ (by omega)
      refine ce_if_eqN (tgt := 40) dX8_allocate_35 (by decide) rfl (by omega) (fun c_35 => ?_) (fun c_35 => ?_)
      · refine ce_aload_n dX8_allocate_40 rfl ?_
        refine ce_cVu dX8_allocate_41 hX8_remember kRX8_194 (m_X8_remember d S hD Mcg1) rfl rfl hD.1 rfl (by decide) (Nat.le_of_ble_eq_true rfl) (fun cg2 hcg2 => ?_)
        have Rcg2 : cr_row (cg2 (d + 3)) (kq (sK S)) (sO S) := by rw [hcg2.2.2 _ (by omega) (by omega)]; exact Mcg1.2.1
        refine ce_aload_n dX8_allocate_44 rfl ?_
        refine ce_aload_n dX8_allocate_45 rfl ?_
        refine ce_getR dX8_allocate_46 fRX8_16 hD.1 hD.2.1.2.2.1 ?_
        refine ce_iload_n dX8_allocate_49 rfl ?_
        refine ce_cVr dX8_allocate_50 hX8_goAllocate kRX8_203 (n_goAllocate (r := d + 3) hD ⟨(hD.2.2.2.2.1).1, (hD.2.2.2.2.1).2⟩ ok.1 Rcg2 (by omega) (w) (by omega) (by omega)) rfl rfl hD.1 rfl (by decide) (Nat.le_of_ble_eq_true rfl) (fun rcg3 cg3 hcg3 => ?_)
        refine ce_iret dX8_allocate_53 rfl rfl (by decide) (by decide) ?_
        obtain ⟨w1, w2, w3⟩ := rM_act Mcg1 hcg2 hcg3.2.1 (fun x h8 h3 => hcg3.2.2 x h8 h3)
        exact ⟨_, rfl, rfl, hcg3.1, w2.trans zcg1, w1, fun x hx => (w3 x hx).trans (ycg1 x hx)⟩
      · omega
  · refine ce_iconst (v := nI (1)) dX8_allocate_9 (by decide) ?_
    refine ce_goto (tgt := 32) dX8_allocate_10 (by decide) ?_
    exact absurd (hf.symm.trans (show kv_allF (sK S) (nI w) = 1 by unfold kv_allF; (try unfold ce_n); (try simp only [ew, Int.toNat_natCast]); (try unfold ce_in at *); (repeat' split) <;> first | rfl | (exfalso; omega))) (by decide)
set_option maxHeartbeats 2000000 in
set_option maxRecDepth 20000 in
theorem m_X8_deliver_no {σ : ce_S} {g : ce_D} (d : Nat) (S : ks_S) (hD : ce_LM σ d) (hr : ce_rM g d S) (ok : ks_ok S) (y : Int32) (f : Nat) (hf : kv_delF (sK S) y = f) (h0 : f ≠ 0) : ce_CT (ce_r 5) mX8_deliver [.ref (d), .int (y)] σ g (ce_rv σ (fun z9 g1 => g1 d 0 = nI ((f + 1) / 2) ∧ ce_rM g1 d S ∧ ce_fr d (d + 11) g g1)) ce_no := by
  have hB := ok.1.i7
  have hM := ok.1.me
  have hW := ok.1.wi
  have hst := ok.1.st
  refine ce_enter (by decide) rfl (Nat.le_of_ble_eq_true rfl) (L := [some (.ref (d)), some (.int (y))]) rfl ?_
  refine ce_aload_n dX8_deliver_0 rfl ?_
  refine ce_aload_n dX8_deliver_1 rfl ?_
  refine ce_iload_n dX8_deliver_2 rfl ?_
  refine ce_cVp dX8_deliver_3 hX8_isWine kRX8_182 (n_isWine d (sK S) (sO S) hD hr.2.1 (y) (by omega)) rfl rfl hD.1 rfl (by decide) (Nat.le_of_ble_eq_true rfl) ?_
  refine ce_if_neB (tgt := 13) dX8_deliver_6 (by decide) rfl (fun c_6 => ?_) (fun c_6 => ?_)
  · obtain ⟨w, hw, rfl⟩ := ce_in_ex c_6
    have ew := nI_toInt (n := w) (by omega)
    have hs := hst w
    refine ce_aload_n dX8_deliver_13 rfl ?_
    refine ce_getR dX8_deliver_14 fRX8_16 hD.1 hD.2.1.2.2.1 ?_
    refine ce_iload_n dX8_deliver_17 rfl ?_
    refine ce_cSp dX8_deliver_18 hX8_canDeliver kRX8_206 (n_canDeliver ⟨(hD.2.2.2.2.1).1, (hD.2.2.2.2.1).2⟩ ok.1 hr.2.1 (w) (by omega)) rfl rfl (by decide) (Nat.le_of_ble_eq_true rfl) ?_
    refine ce_if_eqB (tgt := 28) dX8_deliver_21 (by decide) rfl (fun c_21 => ?_) (fun c_21 => ?_)
    · refine ce_iconst (v := nI (2)) dX8_deliver_28 (by decide) ?_
      have ef : f = 3 := hf.symm.trans (show kv_delF (sK S) (nI w) = 3 by unfold kv_delF; (try unfold ce_n); (try simp only [ew, Int.toNat_natCast]); (try unfold ce_in at *); (repeat' split) <;> first | rfl | (exfalso; omega))
      refine ce_cVr dX8_deliver_29 hX8_refused kRX8_115 (m_X8_refused2 d hD) rfl rfl hD.1 rfl (by decide) (Nat.le_of_ble_eq_true rfl) (fun rcg1 cg1 hcg1 => ?_)
      obtain ⟨ecg1, hcg1⟩ := hcg1
      have ecg1 : rcg1 = nI 1 := ecg1
      subst ecg1
      have Mcg1 : ce_rM cg1 d S := by rw [hcg1]; exact rM_ref hr
      have zcg1 : cg1 d 0 = nI 2 := by rw [hcg1]; exact ce_up_at _ _ _ _
      have ycg1 : ce_fr d (d + 11) g cg1 := fun x hx => by rw [hcg1]; exact ce_up_ne _ _ _ (by omega)
      refine ce_if_eqN (tgt := 37) dX8_deliver_32 (by decide) rfl (by omega) (fun c_32 => ?_) (fun c_32 => ?_)
      · omega
      · refine ce_iconst (v := nI (0)) dX8_deliver_35 (by decide) ?_
        refine ce_iret dX8_deliver_36 rfl rfl (by decide) (by decide) ?_
        exact ⟨_, rfl, rfl, by rw [ef]; exact zcg1, Mcg1, ycg1⟩
    · refine ce_iconst (v := nI (0)) dX8_deliver_24 (by decide) ?_
      refine ce_goto (tgt := 29) dX8_deliver_25 (by decide) ?_
      have ef : f = 0 := hf.symm.trans (show kv_delF (sK S) (nI w) = 0 by unfold kv_delF; (try unfold ce_n); (try simp only [ew, Int.toNat_natCast]); (try unfold ce_in at *); (repeat' split) <;> first | rfl | (exfalso; omega))
      exact absurd ef h0
  · refine ce_iconst (v := nI (1)) dX8_deliver_9 (by decide) ?_
    refine ce_goto (tgt := 29) dX8_deliver_10 (by decide) ?_
    have ef : f = 1 := hf.symm.trans (show kv_delF (sK S) y = 1 by unfold kv_delF; (try unfold ce_n); (try simp only [Int.toNat_natCast]); (try unfold ce_in at *); (repeat' split) <;> first | rfl | (exfalso; omega))
    refine ce_cVr dX8_deliver_29 hX8_refused kRX8_115 (m_X8_refused1 d hD) rfl rfl hD.1 rfl (by decide) (Nat.le_of_ble_eq_true rfl) (fun rcg1 cg1 hcg1 => ?_)
    obtain ⟨ecg1, hcg1⟩ := hcg1
    have ecg1 : rcg1 = nI 1 := ecg1
    subst ecg1
    have Mcg1 : ce_rM cg1 d S := by rw [hcg1]; exact rM_ref hr
    have zcg1 : cg1 d 0 = nI 1 := by rw [hcg1]; exact ce_up_at _ _ _ _
    have ycg1 : ce_fr d (d + 11) g cg1 := fun x hx => by rw [hcg1]; exact ce_up_ne _ _ _ (by omega)
    refine ce_if_eqN (tgt := 37) dX8_deliver_32 (by decide) rfl (by omega) (fun c_32 => ?_) (fun c_32 => ?_)
    · omega
    · refine ce_iconst (v := nI (0)) dX8_deliver_35 (by decide) ?_
      refine ce_iret dX8_deliver_36 rfl rfl (by decide) (by decide) ?_
      exact ⟨_, rfl, rfl, by rw [ef]; exact zcg1, Mcg1, ycg1⟩
set_option maxHeartbeats 2000000 in
set_option maxRecDepth 20000 in
theorem m_X8_deliver_ok {σ : ce_S} {g : ce_D} (d : Nat) (S : ks_S) (hD : ce_LM σ d) (hr : ce_rM g d S) (ok : ks_ok S) (w : Nat) (hw : w < sK S 0 1) (hf : kv_delF (sK S) (nI w) = 0) : ce_CT (ce_r 5) mX8_deliver [.ref (d), .int (nI (w))] σ g (ce_rv σ (fun z9 g1 => z9 = nI (kv_sum (sK S) 8 w) ∧ g1 d 0 = nI 0 ∧ ce_rM g1 d (ks_act S (kv_bri (sK S) w) (ko_bri (sK S) w (sO S))) ∧ ce_fr d (d + 11) g g1)) ce_no := by
  have hB := ok.1.i7
  have hM := ok.1.me
  have hW := ok.1.wi
  have hst := ok.1.st
  have ew := nI_toInt (n := w) (by omega)
  have hs := hst w
  refine ce_enter (by decide) rfl (Nat.le_of_ble_eq_true rfl) (L := [some (.ref (d)), some (.int (nI (w)))]) rfl ?_
  refine ce_aload_n dX8_deliver_0 rfl ?_
  refine ce_aload_n dX8_deliver_1 rfl ?_
  refine ce_iload_n dX8_deliver_2 rfl ?_
  refine ce_cVp dX8_deliver_3 hX8_isWine kRX8_182 (n_isWine d (sK S) (sO S) hD hr.2.1 (nI (w)) (by omega)) rfl rfl hD.1 rfl (by decide) (Nat.le_of_ble_eq_true rfl) ?_
  refine ce_if_neB (tgt := 13) dX8_deliver_6 (by decide) rfl (fun c_6 => ?_) (fun c_6 => ?_)
  · refine ce_aload_n dX8_deliver_13 rfl ?_
    refine ce_getR dX8_deliver_14 fRX8_16 hD.1 hD.2.1.2.2.1 ?_
    refine ce_iload_n dX8_deliver_17 rfl ?_
    refine ce_cSp dX8_deliver_18 hX8_canDeliver kRX8_206 (n_canDeliver ⟨(hD.2.2.2.2.1).1, (hD.2.2.2.2.1).2⟩ ok.1 hr.2.1 (w) (by omega)) rfl rfl (by decide) (Nat.le_of_ble_eq_true rfl) ?_
    refine ce_if_eqB (tgt := 28) dX8_deliver_21 (by decide) rfl (fun c_21 => ?_) (fun c_21 => ?_)
    · refine ce_iconst (v := nI (2)) dX8_deliver_28 (by decide) ?_
      exact absurd (hf.symm.trans (show kv_delF (sK S) (nI w) = 3 by unfold kv_delF; (try unfold ce_n); (try simp only [ew, Int.toNat_natCast]); (try unfold ce_in at *); (repeat' split) <;> first | rfl | (exfalso; omega))) (by decide)
    · refine ce_iconst (v := nI (0)) dX8_deliver_24 (by decide) ?_
      refine ce_goto (tgt := 29) dX8_deliver_25 (by decide) ?_
      refine ce_cVr dX8_deliver_29 hX8_refused kRX8_115 (m_X8_refused0 d hD) rfl rfl hD.1 rfl (by decide) (Nat.le_of_ble_eq_true rfl) (fun rcg1 cg1 hcg1 => ?_)
      obtain ⟨ecg1, hcg1⟩ := hcg1
      have ecg1 : rcg1 = nI 0 := ecg1
      subst ecg1
      have Mcg1 : ce_rM cg1 d S := by rw [hcg1]; exact rM_ref hr
      have zcg1 : cg1 d 0 = nI 0 := by rw [hcg1]; exact ce_up_at _ _ _ _
      have ycg1 : ce_fr d (d + 11) g cg1 := fun x hx => by rw [hcg1]; exact ce_up_ne _ _ _ (by omega)
      refine ce_if_eqN (tgt := 37) dX8_deliver_32 (by decide) rfl (by omega) (fun c_32 => ?_) (fun c_32 => ?_)
      · refine ce_aload_n dX8_deliver_37 rfl ?_
        refine ce_cVu dX8_deliver_38 hX8_remember kRX8_194 (m_X8_remember d S hD Mcg1) rfl rfl hD.1 rfl (by decide) (Nat.le_of_ble_eq_true rfl) (fun cg2 hcg2 => ?_)
        have Rcg2 : cr_row (cg2 (d + 3)) (kq (sK S)) (sO S) := by rw [hcg2.2.2 _ (by omega) (by omega)]; exact Mcg1.2.1
        refine ce_aload_n dX8_deliver_41 rfl ?_
        refine ce_getR dX8_deliver_42 fRX8_16 hD.1 hD.2.1.2.2.1 ?_
        refine ce_iload_n dX8_deliver_45 rfl ?_
        refine ce_cSr dX8_deliver_46 hX8_goDeliver kRX8_210 (n_goDeliver ⟨(hD.2.2.2.2.1).1, (hD.2.2.2.2.1).2⟩ ok.1 Rcg2 (w) (by omega) (by omega) (by omega)) rfl rfl (by decide) (Nat.le_of_ble_eq_true rfl) (fun rcg3 cg3 hcg3 => ?_)
        refine ce_iret dX8_deliver_49 rfl rfl (by decide) (by decide) ?_
        obtain ⟨w1, w2, w3⟩ := rM_act Mcg1 hcg2 hcg3.2.1 (fun x h8 h3 => hcg3.2.2 x h3)
        exact ⟨_, rfl, rfl, hcg3.1, w2.trans zcg1, w1, fun x hx => (w3 x hx).trans (ycg1 x hx)⟩
      · omega
  · refine ce_iconst (v := nI (1)) dX8_deliver_9 (by decide) ?_
    refine ce_goto (tgt := 29) dX8_deliver_10 (by decide) ?_
    exact absurd (hf.symm.trans (show kv_delF (sK S) (nI w) = 1 by unfold kv_delF; (try unfold ce_n); (try simp only [ew, Int.toNat_natCast]); (try unfold ce_in at *); (repeat' split) <;> first | rfl | (exfalso; omega))) (by decide)
theorem kv_dri_9 {K : ce_V} {m w n : Nat} : kv_dri K m w n 9 (m * 6 + w) = K 9 (m * 6 + w) - n := by
  unfold kv_dri
  rw [kv_up_ne (by decide), kv_up_eq]
theorem kv_han_9 {K : ce_V} {m o w n : Nat} : kv_han K m o w n 9 (o * 6 + w) = K 9 (o * 6 + w) + n := kv_up_eq
theorem kv_car_y {K : ce_V} {x y n : Nat} (h : x ≠ y) : kv_car K x y n 12 y = K 12 y + n := by
  unfold kv_car kv_rem kv_put
  rw [kv_up_j (Ne.symm h), kv_up_eq]
set_option maxHeartbeats 2000000 in
set_option maxRecDepth 20000 in
theorem m_X8_drink_no {σ : ce_S} {g : ce_D} (d : Nat) (S : ks_S) (hD : ce_LM σ d) (hr : ce_rM g d S) (ok : ks_ok S) (x y n : Int32) (f : Nat) (hf : kv_driF (sK S) x y n = f) (h0 : f ≠ 0) : ce_CT (ce_r 5) mX8_drink [.ref (d), .int (x), .int (y), .int (n)] σ g (ce_rv σ (fun z9 g1 => g1 d 0 = nI (f) ∧ ce_rM g1 d S ∧ ce_fr d (d + 11) g g1)) ce_no := by
  have hB := ok.1.i7
  have hM := ok.1.me
  have hW := ok.1.wi
  have hst := ok.1.st
  refine ce_enter (by decide) rfl (Nat.le_of_ble_eq_true rfl) (L := [some (.ref (d)), some (.int (x)), some (.int (y)), some (.int (n)), none]) rfl ?_
  refine ce_aload_n dX8_drink_0 rfl ?_
  refine ce_iload_n dX8_drink_1 rfl ?_
  refine ce_cVp dX8_drink_2 hX8_isMember kRX8_174 (n_isMember d (sK S) (sO S) hD hr.2.1 (x) (by omega)) rfl rfl hD.1 rfl (by decide) (Nat.le_of_ble_eq_true rfl) ?_
  refine ce_if_eqB (tgt := 20) dX8_drink_5 (by decide) rfl (fun c_5 => ?_) (fun c_5 => ?_)
  · refine ce_iconst (v := nI (0)) dX8_drink_20 (by decide) ?_
    refine ce_istore dX8_drink_21 (Nat.le_of_ble_eq_true rfl) rfl ?_
    refine ce_aload_n dX8_drink_23 rfl ?_
    refine ce_iload dX8_drink_24 rfl ?_
    refine ce_if_neN (tgt := 33) dX8_drink_26 (by decide) rfl (by omega) (fun c_26 => ?_) (fun c_26 => ?_)
    · omega
    · refine ce_iconst (v := nI (1)) dX8_drink_29 (by decide) ?_
      refine ce_goto (tgt := 70) dX8_drink_30 (by decide) ?_
      have ef : f = 1 := hf.symm.trans (show kv_driF (sK S) x y n = 1 by unfold kv_driF; (try unfold ce_n); (try simp only [Int.toNat_natCast]); (try unfold ce_in at *); (repeat' split) <;> first | rfl | (exfalso; omega))
      refine ce_cVr dX8_drink_70 hX8_refused kRX8_115 (m_X8_refused1 d hD) rfl rfl hD.1 rfl (by decide) (Nat.le_of_ble_eq_true rfl) (fun rcg1 cg1 hcg1 => ?_)
      obtain ⟨ecg1, hcg1⟩ := hcg1
      have ecg1 : rcg1 = nI 1 := ecg1
      subst ecg1
      have Mcg1 : ce_rM cg1 d S := by rw [hcg1]; exact rM_ref hr
      have zcg1 : cg1 d 0 = nI 1 := by rw [hcg1]; exact ce_up_at _ _ _ _
      have ycg1 : ce_fr d (d + 11) g cg1 := fun x hx => by rw [hcg1]; exact ce_up_ne _ _ _ (by omega)
      refine ce_if_eqN (tgt := 78) dX8_drink_73 (by decide) rfl (by omega) (fun c_73 => ?_) (fun c_73 => ?_)
      · omega
      · refine ce_iconst (v := nI (0)) dX8_drink_76 (by decide) ?_
        refine ce_iret dX8_drink_77 rfl rfl (by decide) (by decide) ?_
        exact ⟨_, rfl, rfl, by rw [ef]; exact zcg1, Mcg1, ycg1⟩
  · refine ce_aload_n dX8_drink_8 rfl ?_
    refine ce_iload_n dX8_drink_9 rfl ?_
    refine ce_cVp dX8_drink_10 hX8_isWine kRX8_182 (n_isWine d (sK S) (sO S) hD hr.2.1 (y) (by omega)) rfl rfl hD.1 rfl (by decide) (Nat.le_of_ble_eq_true rfl) ?_
    refine ce_if_eqB (tgt := 20) dX8_drink_13 (by decide) rfl (fun c_13 => ?_) (fun c_13 => ?_)
    · refine ce_iconst (v := nI (0)) dX8_drink_20 (by decide) ?_
      refine ce_istore dX8_drink_21 (Nat.le_of_ble_eq_true rfl) rfl ?_
      refine ce_aload_n dX8_drink_23 rfl ?_
      refine ce_iload dX8_drink_24 rfl ?_
      refine ce_if_neN (tgt := 33) dX8_drink_26 (by decide) rfl (by omega) (fun c_26 => ?_) (fun c_26 => ?_)
      · omega
      · refine ce_iconst (v := nI (1)) dX8_drink_29 (by decide) ?_
        refine ce_goto (tgt := 70) dX8_drink_30 (by decide) ?_
        have ef : f = 1 := hf.symm.trans (show kv_driF (sK S) x y n = 1 by unfold kv_driF; (try unfold ce_n); (try simp only [Int.toNat_natCast]); (try unfold ce_in at *); (repeat' split) <;> first | rfl | (exfalso; omega))
        refine ce_cVr dX8_drink_70 hX8_refused kRX8_115 (m_X8_refused1 d hD) rfl rfl hD.1 rfl (by decide) (Nat.le_of_ble_eq_true rfl) (fun rcg1 cg1 hcg1 => ?_)
        obtain ⟨ecg1, hcg1⟩ := hcg1
        have ecg1 : rcg1 = nI 1 := ecg1
        subst ecg1
        have Mcg1 : ce_rM cg1 d S := by rw [hcg1]; exact rM_ref hr
        have zcg1 : cg1 d 0 = nI 1 := by rw [hcg1]; exact ce_up_at _ _ _ _
        have ycg1 : ce_fr d (d + 11) g cg1 := fun x hx => by rw [hcg1]; exact ce_up_ne _ _ _ (by omega)
        refine ce_if_eqN (tgt := 78) dX8_drink_73 (by decide) rfl (by omega) (fun c_73 => ?_) (fun c_73 => ?_)
        · omega
        · refine ce_iconst (v := nI (0)) dX8_drink_76 (by decide) ?_
          refine ce_iret dX8_drink_77 rfl rfl (by decide) (by decide) ?_
          exact ⟨_, rfl, rfl, by rw [ef]; exact zcg1, Mcg1, ycg1⟩
    · refine ce_iconst (v := nI (1)) dX8_drink_16 (by decide) ?_
      refine ce_goto (tgt := 21) dX8_drink_17 (by decide) ?_
      refine ce_istore dX8_drink_21 (Nat.le_of_ble_eq_true rfl) rfl ?_
      refine ce_aload_n dX8_drink_23 rfl ?_
      refine ce_iload dX8_drink_24 rfl ?_
      refine ce_if_neN (tgt := 33) dX8_drink_26 (by decide) rfl (by omega) (fun c_26 => ?_) (fun c_26 => ?_)
      · obtain ⟨m, hm, rfl⟩ := ce_in_ex c_5
        have em := nI_toInt (n := m) (by omega)
        obtain ⟨w, hw, rfl⟩ := ce_in_ex c_13
        have ew := nI_toInt (n := w) (by omega)
        have hl := ok.1.le (m := m) (w := w) (by omega) (by omega)
        have hs := hst w
        refine ce_iload_n dX8_drink_33 rfl ?_
        refine ce_i2l (v := (n).toInt64) dX8_drink_34 rfl ?_
        refine ce_lconst (v := 1) dX8_drink_35 (by decide) ?_
        refine ce_ldc2 dX8_drink_36 kRX8_199 ?_
        refine ce_cSp dX8_drink_39 hX8_in kRX8_108 (m_X8_in ((n).toInt64) (1) (60) ((1 : Int) ≤ (n).toInt ∧ (n).toInt ≤ (60 : Int)) (cr_io ((cr_tl (n)).trans rfl) (by decide) (by decide))) rfl rfl (by decide) (Nat.le_of_ble_eq_true rfl) ?_
        refine ce_if_neB (tgt := 49) dX8_drink_42 (by decide) rfl (fun c_42 => ?_) (fun c_42 => ?_)
        · refine ce_aload_n dX8_drink_49 rfl ?_
          refine ce_getR dX8_drink_50 fRX8_16 hD.1 hD.2.1.2.2.1 ?_
          refine ce_iload_n dX8_drink_53 rfl ?_
          refine ce_iload_n dX8_drink_54 rfl ?_
          refine ce_cSp dX8_drink_55 hX8_hold kRX8_54 (m_X8_hold (m) (w)) rfl rfl (by decide) (Nat.le_of_ble_eq_true rfl) ?_
          refine ce_iconst (v := nI (2)) dX8_drink_58 (by decide) ?_
          refine ce_iadd (z := nI (81 + 18 * m + 3 * w + 2)) dX8_drink_59 (nI_add _ _) ?_
          refine ce_ialdv dX8_drink_60 (hD.2.2.2.2.1).1 rfl (hD.2.2.2.2.1).2 (by omega) (by decide) (((hr.2.1).h2 (by omega) (by omega)).trans (congrArg nI (by rw [kq_ne (by decide)]))) ?_
          refine ce_iload_n dX8_drink_61 rfl ?_
          refine ce_icmp_ltI (p := (((sK S) 9 (m * 6 + w) : Nat) : Int)) (q := (n).toInt) (tgt := 69) dX8_drink_62 (by decide) (nI_toInt (by omega)) rfl (fun c_62 => ?_) (fun c_62 => ?_)
          · refine ce_iconst (v := nI (3)) dX8_drink_69 (by decide) ?_
            have ef : f = 3 := hf.symm.trans (show kv_driF (sK S) (nI m) (nI w) n = 3 by unfold kv_driF; (try unfold ce_n); (try simp only [em, ew, Int.toNat_natCast]); (try unfold ce_in at *); (repeat' split) <;> first | rfl | (exfalso; omega))
            refine ce_cVr dX8_drink_70 hX8_refused kRX8_115 (m_X8_refused3 d hD) rfl rfl hD.1 rfl (by decide) (Nat.le_of_ble_eq_true rfl) (fun rcg1 cg1 hcg1 => ?_)
            obtain ⟨ecg1, hcg1⟩ := hcg1
            have ecg1 : rcg1 = nI 1 := ecg1
            subst ecg1
            have Mcg1 : ce_rM cg1 d S := by rw [hcg1]; exact rM_ref hr
            have zcg1 : cg1 d 0 = nI 3 := by rw [hcg1]; exact ce_up_at _ _ _ _
            have ycg1 : ce_fr d (d + 11) g cg1 := fun x hx => by rw [hcg1]; exact ce_up_ne _ _ _ (by omega)
            refine ce_if_eqN (tgt := 78) dX8_drink_73 (by decide) rfl (by omega) (fun c_73 => ?_) (fun c_73 => ?_)
            · omega
            · refine ce_iconst (v := nI (0)) dX8_drink_76 (by decide) ?_
              refine ce_iret dX8_drink_77 rfl rfl (by decide) (by decide) ?_
              exact ⟨_, rfl, rfl, by rw [ef]; exact zcg1, Mcg1, ycg1⟩
          · refine ce_iconst (v := nI (0)) dX8_drink_65 (by decide) ?_
            refine ce_goto (tgt := 70) dX8_drink_66 (by decide) ?_
            have ef : f = 0 := hf.symm.trans (show kv_driF (sK S) (nI m) (nI w) n = 0 by unfold kv_driF; (try unfold ce_n); (try simp only [em, ew, Int.toNat_natCast]); (try unfold ce_in at *); (repeat' split) <;> first | rfl | (exfalso; omega))
            exact absurd ef h0
        · refine ce_iconst (v := nI (2)) dX8_drink_45 (by decide) ?_
          refine ce_goto (tgt := 70) dX8_drink_46 (by decide) ?_
          have ef : f = 2 := hf.symm.trans (show kv_driF (sK S) (nI m) (nI w) n = 2 by unfold kv_driF; (try unfold ce_n); (try simp only [em, ew, Int.toNat_natCast]); (try unfold ce_in at *); (repeat' split) <;> first | rfl | (exfalso; omega))
          refine ce_cVr dX8_drink_70 hX8_refused kRX8_115 (m_X8_refused2 d hD) rfl rfl hD.1 rfl (by decide) (Nat.le_of_ble_eq_true rfl) (fun rcg1 cg1 hcg1 => ?_)
          obtain ⟨ecg1, hcg1⟩ := hcg1
          have ecg1 : rcg1 = nI 1 := ecg1
          subst ecg1
          have Mcg1 : ce_rM cg1 d S := by rw [hcg1]; exact rM_ref hr
          have zcg1 : cg1 d 0 = nI 2 := by rw [hcg1]; exact ce_up_at _ _ _ _
          have ycg1 : ce_fr d (d + 11) g cg1 := fun x hx => by rw [hcg1]; exact ce_up_ne _ _ _ (by omega)
          refine ce_if_eqN (tgt := 78) dX8_drink_73 (by decide) rfl (by omega) (fun c_73 => ?_) (fun c_73 => ?_)
          · omega
          · refine ce_iconst (v := nI (0)) dX8_drink_76 (by decide) ?_
            refine ce_iret dX8_drink_77 rfl rfl (by decide) (by decide) ?_
            exact ⟨_, rfl, rfl, by rw [ef]; exact zcg1, Mcg1, ycg1⟩
      · omega
set_option maxHeartbeats 2000000 in
set_option maxRecDepth 20000 in
theorem m_X8_drink_ok {σ : ce_S} {g : ce_D} (d : Nat) (S : ks_S) (hD : ce_LM σ d) (hr : ce_rM g d S) (ok : ks_ok S) (m w q : Nat) (hm : m < sK S 0 0) (hw : w < sK S 0 1) (hq9 : q ≤ 60) (hf : kv_driF (sK S) (nI m) (nI w) (nI q) = 0) : ce_CT (ce_r 5) mX8_drink [.ref (d), .int (nI (m)), .int (nI (w)), .int (nI (q))] σ g (ce_rv σ (fun z9 g1 => z9 = nI (sK S 9 (m * 6 + w) - q) ∧ g1 d 0 = nI 0 ∧ ce_rM g1 d (ks_act S (kv_dri (sK S) m w q) (sO S)) ∧ ce_fr d (d + 11) g g1)) ce_no := by
  have hB := ok.1.i7
  have hM := ok.1.me
  have hW := ok.1.wi
  have hst := ok.1.st
  have em := nI_toInt (n := m) (by omega)
  have ew := nI_toInt (n := w) (by omega)
  have eq := nI_toInt (n := q) (by omega)
  have hl := ok.1.le (m := m) (w := w) (by omega) (by omega)
  have hs := hst w
  refine ce_enter (by decide) rfl (Nat.le_of_ble_eq_true rfl) (L := [some (.ref (d)), some (.int (nI (m))), some (.int (nI (w))), some (.int (nI (q))), none]) rfl ?_
  refine ce_aload_n dX8_drink_0 rfl ?_
  refine ce_iload_n dX8_drink_1 rfl ?_
  refine ce_cVp dX8_drink_2 hX8_isMember kRX8_174 (n_isMember d (sK S) (sO S) hD hr.2.1 (nI (m)) (by omega)) rfl rfl hD.1 rfl (by decide) (Nat.le_of_ble_eq_true rfl) ?_
  refine ce_if_eqB (tgt := 20) dX8_drink_5 (by decide) rfl (fun c_5 => ?_) (fun c_5 => ?_)
  · refine ce_iconst (v := nI (0)) dX8_drink_20 (by decide) ?_
    refine ce_istore dX8_drink_21 (Nat.le_of_ble_eq_true rfl) rfl ?_
    refine ce_aload_n dX8_drink_23 rfl ?_
    refine ce_iload dX8_drink_24 rfl ?_
    refine ce_if_neN (tgt := 33) dX8_drink_26 (by decide) rfl (by omega) (fun c_26 => ?_) (fun c_26 => ?_)
    · omega
    · refine ce_iconst (v := nI (1)) dX8_drink_29 (by decide) ?_
      refine ce_goto (tgt := 70) dX8_drink_30 (by decide) ?_
      exact absurd (hf.symm.trans (show kv_driF (sK S) (nI m) (nI w) (nI q) = 1 by unfold kv_driF; (try unfold ce_n); (try simp only [em, ew, eq, Int.toNat_natCast]); (try unfold ce_in at *); (repeat' split) <;> first | rfl | (exfalso; omega))) (by decide)
  · refine ce_aload_n dX8_drink_8 rfl ?_
    refine ce_iload_n dX8_drink_9 rfl ?_
    refine ce_cVp dX8_drink_10 hX8_isWine kRX8_182 (n_isWine d (sK S) (sO S) hD hr.2.1 (nI (w)) (by omega)) rfl rfl hD.1 rfl (by decide) (Nat.le_of_ble_eq_true rfl) ?_
    refine ce_if_eqB (tgt := 20) dX8_drink_13 (by decide) rfl (fun c_13 => ?_) (fun c_13 => ?_)
    · refine ce_iconst (v := nI (0)) dX8_drink_20 (by decide) ?_
      refine ce_istore dX8_drink_21 (Nat.le_of_ble_eq_true rfl) rfl ?_
      refine ce_aload_n dX8_drink_23 rfl ?_
      refine ce_iload dX8_drink_24 rfl ?_
      refine ce_if_neN (tgt := 33) dX8_drink_26 (by decide) rfl (by omega) (fun c_26 => ?_) (fun c_26 => ?_)
      · omega
      · refine ce_iconst (v := nI (1)) dX8_drink_29 (by decide) ?_
        refine ce_goto (tgt := 70) dX8_drink_30 (by decide) ?_
        exact absurd (hf.symm.trans (show kv_driF (sK S) (nI m) (nI w) (nI q) = 1 by unfold kv_driF; (try unfold ce_n); (try simp only [em, ew, eq, Int.toNat_natCast]); (try unfold ce_in at *); (repeat' split) <;> first | rfl | (exfalso; omega))) (by decide)
    · refine ce_iconst (v := nI (1)) dX8_drink_16 (by decide) ?_
      refine ce_goto (tgt := 21) dX8_drink_17 (by decide) ?_
      refine ce_istore dX8_drink_21 (Nat.le_of_ble_eq_true rfl) rfl ?_
      refine ce_aload_n dX8_drink_23 rfl ?_
      refine ce_iload dX8_drink_24 rfl ?_
      refine ce_if_neN (tgt := 33) dX8_drink_26 (by decide) rfl (by omega) (fun c_26 => ?_) (fun c_26 => ?_)
      · refine ce_iload_n dX8_drink_33 rfl ?_
        refine ce_i2l (v := (nI (q)).toInt64) dX8_drink_34 rfl ?_
        refine ce_lconst (v := 1) dX8_drink_35 (by decide) ?_
        refine ce_ldc2 dX8_drink_36 kRX8_199 ?_
        refine ce_cSp dX8_drink_39 hX8_in kRX8_108 (m_X8_in ((nI (q)).toInt64) (1) (60) ((1 : Int) ≤ ((q : Nat) : Int) ∧ ((q : Nat) : Int) ≤ (60 : Int)) (cr_io ((cr_tl (nI (q))).trans (nI_toInt (by omega))) (by decide) (by decide))) rfl rfl (by decide) (Nat.le_of_ble_eq_true rfl) ?_
        refine ce_if_neB (tgt := 49) dX8_drink_42 (by decide) rfl (fun c_42 => ?_) (fun c_42 => ?_)
        · refine ce_aload_n dX8_drink_49 rfl ?_
          refine ce_getR dX8_drink_50 fRX8_16 hD.1 hD.2.1.2.2.1 ?_
          refine ce_iload_n dX8_drink_53 rfl ?_
          refine ce_iload_n dX8_drink_54 rfl ?_
          refine ce_cSp dX8_drink_55 hX8_hold kRX8_54 (m_X8_hold (m) (w)) rfl rfl (by decide) (Nat.le_of_ble_eq_true rfl) ?_
          refine ce_iconst (v := nI (2)) dX8_drink_58 (by decide) ?_
          refine ce_iadd (z := nI (81 + 18 * m + 3 * w + 2)) dX8_drink_59 (nI_add _ _) ?_
          refine ce_ialdv dX8_drink_60 (hD.2.2.2.2.1).1 rfl (hD.2.2.2.2.1).2 (by omega) (by decide) (((hr.2.1).h2 (by omega) (by omega)).trans (congrArg nI (by rw [kq_ne (by decide)]))) ?_
          refine ce_iload_n dX8_drink_61 rfl ?_
          refine ce_icmp_ltN (tgt := 69) dX8_drink_62 (by decide) rfl rfl (by omega) (by omega) (fun c_62 => ?_) (fun c_62 => ?_)
          · refine ce_iconst (v := nI (3)) dX8_drink_69 (by decide) ?_
            exact absurd (hf.symm.trans (show kv_driF (sK S) (nI m) (nI w) (nI q) = 3 by unfold kv_driF; (try unfold ce_n); (try simp only [em, ew, eq, Int.toNat_natCast]); (try unfold ce_in at *); (repeat' split) <;> first | rfl | (exfalso; omega))) (by decide)
          · refine ce_iconst (v := nI (0)) dX8_drink_65 (by decide) ?_
            refine ce_goto (tgt := 70) dX8_drink_66 (by decide) ?_
            refine ce_cVr dX8_drink_70 hX8_refused kRX8_115 (m_X8_refused0 d hD) rfl rfl hD.1 rfl (by decide) (Nat.le_of_ble_eq_true rfl) (fun rcg1 cg1 hcg1 => ?_)
            obtain ⟨ecg1, hcg1⟩ := hcg1
            have ecg1 : rcg1 = nI 0 := ecg1
            subst ecg1
            have Mcg1 : ce_rM cg1 d S := by rw [hcg1]; exact rM_ref hr
            have zcg1 : cg1 d 0 = nI 0 := by rw [hcg1]; exact ce_up_at _ _ _ _
            have ycg1 : ce_fr d (d + 11) g cg1 := fun x hx => by rw [hcg1]; exact ce_up_ne _ _ _ (by omega)
            refine ce_if_eqN (tgt := 78) dX8_drink_73 (by decide) rfl (by omega) (fun c_73 => ?_) (fun c_73 => ?_)
            · refine ce_aload_n dX8_drink_78 rfl ?_
              refine ce_cVu dX8_drink_79 hX8_remember kRX8_194 (m_X8_remember d S hD Mcg1) rfl rfl hD.1 rfl (by decide) (Nat.le_of_ble_eq_true rfl) (fun cg2 hcg2 => ?_)
              have Rcg2 : cr_row (cg2 (d + 3)) (kq (sK S)) (sO S) := by rw [hcg2.2.2 _ (by omega) (by omega)]; exact Mcg1.2.1
              refine ce_aload_n dX8_drink_82 rfl ?_
              refine ce_getR dX8_drink_83 fRX8_16 hD.1 hD.2.1.2.2.1 ?_
              refine ce_iload_n dX8_drink_86 rfl ?_
              refine ce_iload_n dX8_drink_87 rfl ?_
              refine ce_iload_n dX8_drink_88 rfl ?_
              refine ce_cSu dX8_drink_89 hX8_goDrink kRX8_213 (n_goDrink ⟨(hD.2.2.2.2.1).1, (hD.2.2.2.2.1).2⟩ ok.1 Rcg2 (m) (w) (q) (by omega) (by omega) (by omega) (by omega)) rfl rfl (by decide) (Nat.le_of_ble_eq_true rfl) (fun cg3 hcg3 => ?_)
              refine ce_aload_n dX8_drink_92 rfl ?_
              refine ce_getR dX8_drink_93 fRX8_16 hD.1 hD.2.1.2.2.1 ?_
              refine ce_iload_n dX8_drink_96 rfl ?_
              refine ce_iload_n dX8_drink_97 rfl ?_
              refine ce_cSp dX8_drink_98 hX8_hold kRX8_54 (m_X8_hold (m) (w)) rfl rfl (by decide) (Nat.le_of_ble_eq_true rfl) ?_
              refine ce_iconst (v := nI (2)) dX8_drink_101 (by decide) ?_
              refine ce_iadd (z := nI (81 + 18 * m + 3 * w + 2)) dX8_drink_102 (nI_add _ _) ?_
              refine ce_ialdv dX8_drink_103 (hD.2.2.2.2.1).1 rfl (hD.2.2.2.2.1).2 (by omega) (by decide) (((hcg3.1).h2 (by omega) (by omega)).trans (congrArg nI (by rw [kq_ne (by decide)]))) ?_
              refine ce_iret dX8_drink_104 rfl rfl (by decide) (by decide) ?_
              obtain ⟨w1, w2, w3⟩ := rM_act Mcg1 hcg2 hcg3.1 (fun x h8 h3 => hcg3.2 x h3)
              exact ⟨_, rfl, rfl, congrArg nI kv_dri_9, w2.trans zcg1, w1, fun x hx => (w3 x hx).trans (ycg1 x hx)⟩
            · omega
        · refine ce_iconst (v := nI (2)) dX8_drink_45 (by decide) ?_
          refine ce_goto (tgt := 70) dX8_drink_46 (by decide) ?_
          exact absurd (hf.symm.trans (show kv_driF (sK S) (nI m) (nI w) (nI q) = 2 by unfold kv_driF; (try unfold ce_n); (try simp only [em, ew, eq, Int.toNat_natCast]); (try unfold ce_in at *); (repeat' split) <;> first | rfl | (exfalso; omega))) (by decide)
      · omega
set_option maxHeartbeats 2000000 in
set_option maxRecDepth 20000 in
theorem m_X8_give_no {σ : ce_S} {g : ce_D} (d : Nat) (S : ks_S) (hD : ce_LM σ d) (hr : ce_rM g d S) (ok : ks_ok S) (x z y n : Int32) (f : Nat) (hf : kv_gifF (sK S) x z y n = f) (h0 : f ≠ 0) : ce_CT (ce_r 5) mX8_give [.ref (d), .int (x), .int (z), .int (y), .int (n)] σ g (ce_rv σ (fun z9 g1 => g1 d 0 = nI (f) ∧ ce_rM g1 d S ∧ ce_fr d (d + 11) g g1)) ce_no := by
  have hB := ok.1.i7
  have hM := ok.1.me
  have hW := ok.1.wi
  have hst := ok.1.st
  refine ce_enter (by decide) rfl (Nat.le_of_ble_eq_true rfl) (L := [some (.ref (d)), some (.int (x)), some (.int (z)), some (.int (y)), some (.int (n)), none]) rfl ?_
  refine ce_aload_n dX8_give_0 rfl ?_
  refine ce_iload_n dX8_give_1 rfl ?_
  refine ce_cVp dX8_give_2 hX8_isMember kRX8_174 (n_isMember d (sK S) (sO S) hD hr.2.1 (x) (by omega)) rfl rfl hD.1 rfl (by decide) (Nat.le_of_ble_eq_true rfl) ?_
  refine ce_if_eqB (tgt := 28) dX8_give_5 (by decide) rfl (fun c_5 => ?_) (fun c_5 => ?_)
  · refine ce_iconst (v := nI (0)) dX8_give_28 (by decide) ?_
    refine ce_istore dX8_give_29 (Nat.le_of_ble_eq_true rfl) rfl ?_
    refine ce_aload_n dX8_give_31 rfl ?_
    refine ce_iload dX8_give_32 rfl ?_
    refine ce_if_neN (tgt := 41) dX8_give_34 (by decide) rfl (by omega) (fun c_34 => ?_) (fun c_34 => ?_)
    · omega
    · refine ce_iconst (v := nI (1)) dX8_give_37 (by decide) ?_
      refine ce_goto (tgt := 85) dX8_give_38 (by decide) ?_
      have ef : f = 1 := hf.symm.trans (show kv_gifF (sK S) x z y n = 1 by unfold kv_gifF; (try unfold ce_n); (try simp only [Int.toNat_natCast]); (try unfold ce_in at *); (repeat' split) <;> first | rfl | (exfalso; omega))
      refine ce_cVr dX8_give_85 hX8_refused kRX8_115 (m_X8_refused1 d hD) rfl rfl hD.1 rfl (by decide) (Nat.le_of_ble_eq_true rfl) (fun rcg1 cg1 hcg1 => ?_)
      obtain ⟨ecg1, hcg1⟩ := hcg1
      have ecg1 : rcg1 = nI 1 := ecg1
      subst ecg1
      have Mcg1 : ce_rM cg1 d S := by rw [hcg1]; exact rM_ref hr
      have zcg1 : cg1 d 0 = nI 1 := by rw [hcg1]; exact ce_up_at _ _ _ _
      have ycg1 : ce_fr d (d + 11) g cg1 := fun x hx => by rw [hcg1]; exact ce_up_ne _ _ _ (by omega)
      refine ce_if_eqN (tgt := 93) dX8_give_88 (by decide) rfl (by omega) (fun c_88 => ?_) (fun c_88 => ?_)
      · omega
      · refine ce_iconst (v := nI (0)) dX8_give_91 (by decide) ?_
        refine ce_iret dX8_give_92 rfl rfl (by decide) (by decide) ?_
        exact ⟨_, rfl, rfl, by rw [ef]; exact zcg1, Mcg1, ycg1⟩
  · refine ce_aload_n dX8_give_8 rfl ?_
    refine ce_iload_n dX8_give_9 rfl ?_
    refine ce_cVp dX8_give_10 hX8_isMember kRX8_174 (n_isMember d (sK S) (sO S) hD hr.2.1 (z) (by omega)) rfl rfl hD.1 rfl (by decide) (Nat.le_of_ble_eq_true rfl) ?_
    refine ce_if_eqB (tgt := 28) dX8_give_13 (by decide) rfl (fun c_13 => ?_) (fun c_13 => ?_)
    · refine ce_iconst (v := nI (0)) dX8_give_28 (by decide) ?_
      refine ce_istore dX8_give_29 (Nat.le_of_ble_eq_true rfl) rfl ?_
      refine ce_aload_n dX8_give_31 rfl ?_
      refine ce_iload dX8_give_32 rfl ?_
      refine ce_if_neN (tgt := 41) dX8_give_34 (by decide) rfl (by omega) (fun c_34 => ?_) (fun c_34 => ?_)
      · omega
      · refine ce_iconst (v := nI (1)) dX8_give_37 (by decide) ?_
        refine ce_goto (tgt := 85) dX8_give_38 (by decide) ?_
        have ef : f = 1 := hf.symm.trans (show kv_gifF (sK S) x z y n = 1 by unfold kv_gifF; (try unfold ce_n); (try simp only [Int.toNat_natCast]); (try unfold ce_in at *); (repeat' split) <;> first | rfl | (exfalso; omega))
        refine ce_cVr dX8_give_85 hX8_refused kRX8_115 (m_X8_refused1 d hD) rfl rfl hD.1 rfl (by decide) (Nat.le_of_ble_eq_true rfl) (fun rcg1 cg1 hcg1 => ?_)
        obtain ⟨ecg1, hcg1⟩ := hcg1
        have ecg1 : rcg1 = nI 1 := ecg1
        subst ecg1
        have Mcg1 : ce_rM cg1 d S := by rw [hcg1]; exact rM_ref hr
        have zcg1 : cg1 d 0 = nI 1 := by rw [hcg1]; exact ce_up_at _ _ _ _
        have ycg1 : ce_fr d (d + 11) g cg1 := fun x hx => by rw [hcg1]; exact ce_up_ne _ _ _ (by omega)
        refine ce_if_eqN (tgt := 93) dX8_give_88 (by decide) rfl (by omega) (fun c_88 => ?_) (fun c_88 => ?_)
        · omega
        · refine ce_iconst (v := nI (0)) dX8_give_91 (by decide) ?_
          refine ce_iret dX8_give_92 rfl rfl (by decide) (by decide) ?_
          exact ⟨_, rfl, rfl, by rw [ef]; exact zcg1, Mcg1, ycg1⟩
    · refine ce_aload_n dX8_give_16 rfl ?_
      refine ce_iload_n dX8_give_17 rfl ?_
      refine ce_cVp dX8_give_18 hX8_isWine kRX8_182 (n_isWine d (sK S) (sO S) hD hr.2.1 (y) (by omega)) rfl rfl hD.1 rfl (by decide) (Nat.le_of_ble_eq_true rfl) ?_
      refine ce_if_eqB (tgt := 28) dX8_give_21 (by decide) rfl (fun c_21 => ?_) (fun c_21 => ?_)
      · refine ce_iconst (v := nI (0)) dX8_give_28 (by decide) ?_
        refine ce_istore dX8_give_29 (Nat.le_of_ble_eq_true rfl) rfl ?_
        refine ce_aload_n dX8_give_31 rfl ?_
        refine ce_iload dX8_give_32 rfl ?_
        refine ce_if_neN (tgt := 41) dX8_give_34 (by decide) rfl (by omega) (fun c_34 => ?_) (fun c_34 => ?_)
        · omega
        · refine ce_iconst (v := nI (1)) dX8_give_37 (by decide) ?_
          refine ce_goto (tgt := 85) dX8_give_38 (by decide) ?_
          have ef : f = 1 := hf.symm.trans (show kv_gifF (sK S) x z y n = 1 by unfold kv_gifF; (try unfold ce_n); (try simp only [Int.toNat_natCast]); (try unfold ce_in at *); (repeat' split) <;> first | rfl | (exfalso; omega))
          refine ce_cVr dX8_give_85 hX8_refused kRX8_115 (m_X8_refused1 d hD) rfl rfl hD.1 rfl (by decide) (Nat.le_of_ble_eq_true rfl) (fun rcg1 cg1 hcg1 => ?_)
          obtain ⟨ecg1, hcg1⟩ := hcg1
          have ecg1 : rcg1 = nI 1 := ecg1
          subst ecg1
          have Mcg1 : ce_rM cg1 d S := by rw [hcg1]; exact rM_ref hr
          have zcg1 : cg1 d 0 = nI 1 := by rw [hcg1]; exact ce_up_at _ _ _ _
          have ycg1 : ce_fr d (d + 11) g cg1 := fun x hx => by rw [hcg1]; exact ce_up_ne _ _ _ (by omega)
          refine ce_if_eqN (tgt := 93) dX8_give_88 (by decide) rfl (by omega) (fun c_88 => ?_) (fun c_88 => ?_)
          · omega
          · refine ce_iconst (v := nI (0)) dX8_give_91 (by decide) ?_
            refine ce_iret dX8_give_92 rfl rfl (by decide) (by decide) ?_
            exact ⟨_, rfl, rfl, by rw [ef]; exact zcg1, Mcg1, ycg1⟩
      · refine ce_iconst (v := nI (1)) dX8_give_24 (by decide) ?_
        refine ce_goto (tgt := 29) dX8_give_25 (by decide) ?_
        refine ce_istore dX8_give_29 (Nat.le_of_ble_eq_true rfl) rfl ?_
        refine ce_aload_n dX8_give_31 rfl ?_
        refine ce_iload dX8_give_32 rfl ?_
        refine ce_if_neN (tgt := 41) dX8_give_34 (by decide) rfl (by omega) (fun c_34 => ?_) (fun c_34 => ?_)
        · obtain ⟨m, hm, rfl⟩ := ce_in_ex c_5
          have em := nI_toInt (n := m) (by omega)
          obtain ⟨o, ho, rfl⟩ := ce_in_ex c_13
          have eo := nI_toInt (n := o) (by omega)
          obtain ⟨w, hw, rfl⟩ := ce_in_ex c_21
          have ew := nI_toInt (n := w) (by omega)
          have hl := ok.1.le (m := m) (w := w) (by omega) (by omega)
          have hs := hst w
          refine ce_iload_n dX8_give_41 rfl ?_
          refine ce_iload_n dX8_give_42 rfl ?_
          refine ce_icmp_eqN (tgt := 59) dX8_give_43 (by decide) rfl rfl (by omega) (by omega) (fun c_43 => ?_) (fun c_43 => ?_)
          · refine ce_iconst (v := nI (2)) dX8_give_59 (by decide) ?_
            refine ce_goto (tgt := 85) dX8_give_60 (by decide) ?_
            have ef : f = 2 := hf.symm.trans (show kv_gifF (sK S) (nI m) (nI o) (nI w) n = 2 by unfold kv_gifF; (try unfold ce_n); (try simp only [em, eo, ew, Int.toNat_natCast]); (try unfold ce_in at *); (repeat' split) <;> first | rfl | (exfalso; omega))
            refine ce_cVr dX8_give_85 hX8_refused kRX8_115 (m_X8_refused2 d hD) rfl rfl hD.1 rfl (by decide) (Nat.le_of_ble_eq_true rfl) (fun rcg1 cg1 hcg1 => ?_)
            obtain ⟨ecg1, hcg1⟩ := hcg1
            have ecg1 : rcg1 = nI 1 := ecg1
            subst ecg1
            have Mcg1 : ce_rM cg1 d S := by rw [hcg1]; exact rM_ref hr
            have zcg1 : cg1 d 0 = nI 2 := by rw [hcg1]; exact ce_up_at _ _ _ _
            have ycg1 : ce_fr d (d + 11) g cg1 := fun x hx => by rw [hcg1]; exact ce_up_ne _ _ _ (by omega)
            refine ce_if_eqN (tgt := 93) dX8_give_88 (by decide) rfl (by omega) (fun c_88 => ?_) (fun c_88 => ?_)
            · omega
            · refine ce_iconst (v := nI (0)) dX8_give_91 (by decide) ?_
              refine ce_iret dX8_give_92 rfl rfl (by decide) (by decide) ?_
              exact ⟨_, rfl, rfl, by rw [ef]; exact zcg1, Mcg1, ycg1⟩
          · refine ce_iload dX8_give_46 rfl ?_
            refine ce_i2l (v := (n).toInt64) dX8_give_48 rfl ?_
            refine ce_lconst (v := 1) dX8_give_49 (by decide) ?_
            refine ce_ldc2 dX8_give_50 kRX8_199 ?_
            refine ce_cSp dX8_give_53 hX8_in kRX8_108 (m_X8_in ((n).toInt64) (1) (60) ((1 : Int) ≤ (n).toInt ∧ (n).toInt ≤ (60 : Int)) (cr_io ((cr_tl (n)).trans rfl) (by decide) (by decide))) rfl rfl (by decide) (Nat.le_of_ble_eq_true rfl) ?_
            refine ce_if_neB (tgt := 63) dX8_give_56 (by decide) rfl (fun c_56 => ?_) (fun c_56 => ?_)
            · refine ce_aload_n dX8_give_63 rfl ?_
              refine ce_getR dX8_give_64 fRX8_16 hD.1 hD.2.1.2.2.1 ?_
              refine ce_iload_n dX8_give_67 rfl ?_
              refine ce_iload_n dX8_give_68 rfl ?_
              refine ce_cSp dX8_give_69 hX8_hold kRX8_54 (m_X8_hold (m) (w)) rfl rfl (by decide) (Nat.le_of_ble_eq_true rfl) ?_
              refine ce_iconst (v := nI (2)) dX8_give_72 (by decide) ?_
              refine ce_iadd (z := nI (81 + 18 * m + 3 * w + 2)) dX8_give_73 (nI_add _ _) ?_
              refine ce_ialdv dX8_give_74 (hD.2.2.2.2.1).1 rfl (hD.2.2.2.2.1).2 (by omega) (by decide) (((hr.2.1).h2 (by omega) (by omega)).trans (congrArg nI (by rw [kq_ne (by decide)]))) ?_
              refine ce_iload dX8_give_75 rfl ?_
              refine ce_icmp_ltI (p := (((sK S) 9 (m * 6 + w) : Nat) : Int)) (q := (n).toInt) (tgt := 84) dX8_give_77 (by decide) (nI_toInt (by omega)) rfl (fun c_77 => ?_) (fun c_77 => ?_)
              · refine ce_iconst (v := nI (3)) dX8_give_84 (by decide) ?_
                have ef : f = 3 := hf.symm.trans (show kv_gifF (sK S) (nI m) (nI o) (nI w) n = 3 by unfold kv_gifF; (try unfold ce_n); (try simp only [em, eo, ew, Int.toNat_natCast]); (try unfold ce_in at *); (repeat' split) <;> first | rfl | (exfalso; omega))
                refine ce_cVr dX8_give_85 hX8_refused kRX8_115 (m_X8_refused3 d hD) rfl rfl hD.1 rfl (by decide) (Nat.le_of_ble_eq_true rfl) (fun rcg1 cg1 hcg1 => ?_)
                obtain ⟨ecg1, hcg1⟩ := hcg1
                have ecg1 : rcg1 = nI 1 := ecg1
                subst ecg1
                have Mcg1 : ce_rM cg1 d S := by rw [hcg1]; exact rM_ref hr
                have zcg1 : cg1 d 0 = nI 3 := by rw [hcg1]; exact ce_up_at _ _ _ _
                have ycg1 : ce_fr d (d + 11) g cg1 := fun x hx => by rw [hcg1]; exact ce_up_ne _ _ _ (by omega)
                refine ce_if_eqN (tgt := 93) dX8_give_88 (by decide) rfl (by omega) (fun c_88 => ?_) (fun c_88 => ?_)
                · omega
                · refine ce_iconst (v := nI (0)) dX8_give_91 (by decide) ?_
                  refine ce_iret dX8_give_92 rfl rfl (by decide) (by decide) ?_
                  exact ⟨_, rfl, rfl, by rw [ef]; exact zcg1, Mcg1, ycg1⟩
              · refine ce_iconst (v := nI (0)) dX8_give_80 (by decide) ?_
                refine ce_goto (tgt := 85) dX8_give_81 (by decide) ?_
                have ef : f = 0 := hf.symm.trans (show kv_gifF (sK S) (nI m) (nI o) (nI w) n = 0 by unfold kv_gifF; (try unfold ce_n); (try simp only [em, eo, ew, Int.toNat_natCast]); (try unfold ce_in at *); (repeat' split) <;> first | rfl | (exfalso; omega))
                exact absurd ef h0
            · refine ce_iconst (v := nI (2)) dX8_give_59 (by decide) ?_
              refine ce_goto (tgt := 85) dX8_give_60 (by decide) ?_
              have ef : f = 2 := hf.symm.trans (show kv_gifF (sK S) (nI m) (nI o) (nI w) n = 2 by unfold kv_gifF; (try unfold ce_n); (try simp only [em, eo, ew, Int.toNat_natCast]); (try unfold ce_in at *); (repeat' split) <;> first | rfl | (exfalso; omega))
              refine ce_cVr dX8_give_85 hX8_refused kRX8_115 (m_X8_refused2 d hD) rfl rfl hD.1 rfl (by decide) (Nat.le_of_ble_eq_true rfl) (fun rcg1 cg1 hcg1 => ?_)
              obtain ⟨ecg1, hcg1⟩ := hcg1
              have ecg1 : rcg1 = nI 1 := ecg1
              subst ecg1
              have Mcg1 : ce_rM cg1 d S := by rw [hcg1]; exact rM_ref hr
              have zcg1 : cg1 d 0 = nI 2 := by rw [hcg1]; exact ce_up_at _ _ _ _
              have ycg1 : ce_fr d (d + 11) g cg1 := fun x hx => by rw [hcg1]; exact ce_up_ne _ _ _ (by omega)
              refine ce_if_eqN (tgt := 93) dX8_give_88 (by decide) rfl (by omega) (fun c_88 => ?_) (fun c_88 => ?_)
              · omega
              · refine ce_iconst (v := nI (0)) dX8_give_91 (by decide) ?_
                refine ce_iret dX8_give_92 rfl rfl (by decide) (by decide) ?_
                exact ⟨_, rfl, rfl, by rw [ef]; exact zcg1, Mcg1, ycg1⟩
        · omega
set_option maxHeartbeats 2000000 in
set_option maxRecDepth 20000 in
theorem m_X8_give_ok {σ : ce_S} {g : ce_D} (d : Nat) (S : ks_S) (hD : ce_LM σ d) (hr : ce_rM g d S) (ok : ks_ok S) (m o w q : Nat) (hm : m < sK S 0 0) (ho : o < sK S 0 0) (hw : w < sK S 0 1) (hmo : m ≠ o) (hq9 : q ≤ 60) (hf : kv_gifF (sK S) (nI m) (nI o) (nI w) (nI q) = 0) : ce_CT (ce_r 5) mX8_give [.ref (d), .int (nI (m)), .int (nI (o)), .int (nI (w)), .int (nI (q))] σ g (ce_rv σ (fun z9 g1 => z9 = nI (sK S 9 (o * 6 + w) + q) ∧ g1 d 0 = nI 0 ∧ ce_rM g1 d (ks_act S (kv_han (sK S) m o w q) (sO S)) ∧ ce_fr d (d + 11) g g1)) ce_no := by
  have hB := ok.1.i7
  have hM := ok.1.me
  have hW := ok.1.wi
  have hst := ok.1.st
  have em := nI_toInt (n := m) (by omega)
  have eo := nI_toInt (n := o) (by omega)
  have ew := nI_toInt (n := w) (by omega)
  have eq := nI_toInt (n := q) (by omega)
  have hl := ok.1.le (m := m) (w := w) (by omega) (by omega)
  have hs := hst w
  refine ce_enter (by decide) rfl (Nat.le_of_ble_eq_true rfl) (L := [some (.ref (d)), some (.int (nI (m))), some (.int (nI (o))), some (.int (nI (w))), some (.int (nI (q))), none]) rfl ?_
  refine ce_aload_n dX8_give_0 rfl ?_
  refine ce_iload_n dX8_give_1 rfl ?_
  refine ce_cVp dX8_give_2 hX8_isMember kRX8_174 (n_isMember d (sK S) (sO S) hD hr.2.1 (nI (m)) (by omega)) rfl rfl hD.1 rfl (by decide) (Nat.le_of_ble_eq_true rfl) ?_
  refine ce_if_eqB (tgt := 28) dX8_give_5 (by decide) rfl (fun c_5 => ?_) (fun c_5 => ?_)
  · refine ce_iconst (v := nI (0)) dX8_give_28 (by decide) ?_
    refine ce_istore dX8_give_29 (Nat.le_of_ble_eq_true rfl) rfl ?_
    refine ce_aload_n dX8_give_31 rfl ?_
    refine ce_iload dX8_give_32 rfl ?_
    refine ce_if_neN (tgt := 41) dX8_give_34 (by decide) rfl (by omega) (fun c_34 => ?_) (fun c_34 => ?_)
    · omega
    · refine ce_iconst (v := nI (1)) dX8_give_37 (by decide) ?_
      refine ce_goto (tgt := 85) dX8_give_38 (by decide) ?_
      exact absurd (hf.symm.trans (show kv_gifF (sK S) (nI m) (nI o) (nI w) (nI q) = 1 by unfold kv_gifF; (try unfold ce_n); (try simp only [em, eo, ew, eq, Int.toNat_natCast]); (try unfold ce_in at *); (repeat' split) <;> first | rfl | (exfalso; omega))) (by decide)
  · refine ce_aload_n dX8_give_8 rfl ?_
    refine ce_iload_n dX8_give_9 rfl ?_
    refine ce_cVp dX8_give_10 hX8_isMember kRX8_174 (n_isMember d (sK S) (sO S) hD hr.2.1 (nI (o)) (by omega)) rfl rfl hD.1 rfl (by decide) (Nat.le_of_ble_eq_true rfl) ?_
    refine ce_if_eqB (tgt := 28) dX8_give_13 (by decide) rfl (fun c_13 => ?_) (fun c_13 => ?_)
    · refine ce_iconst (v := nI (0)) dX8_give_28 (by decide) ?_
      refine ce_istore dX8_give_29 (Nat.le_of_ble_eq_true rfl) rfl ?_
      refine ce_aload_n dX8_give_31 rfl ?_
      refine ce_iload dX8_give_32 rfl ?_
      refine ce_if_neN (tgt := 41) dX8_give_34 (by decide) rfl (by omega) (fun c_34 => ?_) (fun c_34 => ?_)
      · omega
      · refine ce_iconst (v := nI (1)) dX8_give_37 (by decide) ?_
        refine ce_goto (tgt := 85) dX8_give_38 (by decide) ?_
        exact absurd (hf.symm.trans (show kv_gifF (sK S) (nI m) (nI o) (nI w) (nI q) = 1 by unfold kv_gifF; (try unfold ce_n); (try simp only [em, eo, ew, eq, Int.toNat_natCast]); (try unfold ce_in at *); (repeat' split) <;> first | rfl | (exfalso; omega))) (by decide)
    · refine ce_aload_n dX8_give_16 rfl ?_
      refine ce_iload_n dX8_give_17 rfl ?_
      refine ce_cVp dX8_give_18 hX8_isWine kRX8_182 (n_isWine d (sK S) (sO S) hD hr.2.1 (nI (w)) (by omega)) rfl rfl hD.1 rfl (by decide) (Nat.le_of_ble_eq_true rfl) ?_
      refine ce_if_eqB (tgt := 28) dX8_give_21 (by decide) rfl (fun c_21 => ?_) (fun c_21 => ?_)
      · refine ce_iconst (v := nI (0)) dX8_give_28 (by decide) ?_
        refine ce_istore dX8_give_29 (Nat.le_of_ble_eq_true rfl) rfl ?_
        refine ce_aload_n dX8_give_31 rfl ?_
        refine ce_iload dX8_give_32 rfl ?_
        refine ce_if_neN (tgt := 41) dX8_give_34 (by decide) rfl (by omega) (fun c_34 => ?_) (fun c_34 => ?_)
        · omega
        · refine ce_iconst (v := nI (1)) dX8_give_37 (by decide) ?_
          refine ce_goto (tgt := 85) dX8_give_38 (by decide) ?_
          exact absurd (hf.symm.trans (show kv_gifF (sK S) (nI m) (nI o) (nI w) (nI q) = 1 by unfold kv_gifF; (try unfold ce_n); (try simp only [em, eo, ew, eq, Int.toNat_natCast]); (try unfold ce_in at *); (repeat' split) <;> first | rfl | (exfalso; omega))) (by decide)
      · refine ce_iconst (v := nI (1)) dX8_give_24 (by decide) ?_
        refine ce_goto (tgt := 29) dX8_give_25 (by decide) ?_
        refine ce_istore dX8_give_29 (Nat.le_of_ble_eq_true rfl) rfl ?_
        refine ce_aload_n dX8_give_31 rfl ?_
        refine ce_iload dX8_give_32 rfl ?_
        refine ce_if_neN (tgt := 41) dX8_give_34 (by decide) rfl (by omega) (fun c_34 => ?_) (fun c_34 => ?_)
        · refine ce_iload_n dX8_give_41 rfl ?_
          refine ce_iload_n dX8_give_42 rfl ?_
          refine ce_icmp_eqN (tgt := 59) dX8_give_43 (by decide) rfl rfl (by omega) (by omega) (fun c_43 => ?_) (fun c_43 => ?_)
          · refine ce_iconst (v := nI (2)) dX8_give_59 (by decide) ?_
            refine ce_goto (tgt := 85) dX8_give_60 (by decide) ?_
            exact absurd (hf.symm.trans (show kv_gifF (sK S) (nI m) (nI o) (nI w) (nI q) = 2 by unfold kv_gifF; (try unfold ce_n); (try simp only [em, eo, ew, eq, Int.toNat_natCast]); (try unfold ce_in at *); (repeat' split) <;> first | rfl | (exfalso; omega))) (by decide)
          · refine ce_iload dX8_give_46 rfl ?_
            refine ce_i2l (v := (nI (q)).toInt64) dX8_give_48 rfl ?_
            refine ce_lconst (v := 1) dX8_give_49 (by decide) ?_
            refine ce_ldc2 dX8_give_50 kRX8_199 ?_
            refine ce_cSp dX8_give_53 hX8_in kRX8_108 (m_X8_in ((nI (q)).toInt64) (1) (60) ((1 : Int) ≤ ((q : Nat) : Int) ∧ ((q : Nat) : Int) ≤ (60 : Int)) (cr_io ((cr_tl (nI (q))).trans (nI_toInt (by omega))) (by decide) (by decide))) rfl rfl (by decide) (Nat.le_of_ble_eq_true rfl) ?_
            refine ce_if_neB (tgt := 63) dX8_give_56 (by decide) rfl (fun c_56 => ?_) (fun c_56 => ?_)
            · refine ce_aload_n dX8_give_63 rfl ?_
              refine ce_getR dX8_give_64 fRX8_16 hD.1 hD.2.1.2.2.1 ?_
              refine ce_iload_n dX8_give_67 rfl ?_
              refine ce_iload_n dX8_give_68 rfl ?_
              refine ce_cSp dX8_give_69 hX8_hold kRX8_54 (m_X8_hold (m) (w)) rfl rfl (by decide) (Nat.le_of_ble_eq_true rfl) ?_
              refine ce_iconst (v := nI (2)) dX8_give_72 (by decide) ?_
              refine ce_iadd (z := nI (81 + 18 * m + 3 * w + 2)) dX8_give_73 (nI_add _ _) ?_
              refine ce_ialdv dX8_give_74 (hD.2.2.2.2.1).1 rfl (hD.2.2.2.2.1).2 (by omega) (by decide) (((hr.2.1).h2 (by omega) (by omega)).trans (congrArg nI (by rw [kq_ne (by decide)]))) ?_
              refine ce_iload dX8_give_75 rfl ?_
              refine ce_icmp_ltN (tgt := 84) dX8_give_77 (by decide) rfl rfl (by omega) (by omega) (fun c_77 => ?_) (fun c_77 => ?_)
              · refine ce_iconst (v := nI (3)) dX8_give_84 (by decide) ?_
                exact absurd (hf.symm.trans (show kv_gifF (sK S) (nI m) (nI o) (nI w) (nI q) = 3 by unfold kv_gifF; (try unfold ce_n); (try simp only [em, eo, ew, eq, Int.toNat_natCast]); (try unfold ce_in at *); (repeat' split) <;> first | rfl | (exfalso; omega))) (by decide)
              · refine ce_iconst (v := nI (0)) dX8_give_80 (by decide) ?_
                refine ce_goto (tgt := 85) dX8_give_81 (by decide) ?_
                refine ce_cVr dX8_give_85 hX8_refused kRX8_115 (m_X8_refused0 d hD) rfl rfl hD.1 rfl (by decide) (Nat.le_of_ble_eq_true rfl) (fun rcg1 cg1 hcg1 => ?_)
                obtain ⟨ecg1, hcg1⟩ := hcg1
                have ecg1 : rcg1 = nI 0 := ecg1
                subst ecg1
                have Mcg1 : ce_rM cg1 d S := by rw [hcg1]; exact rM_ref hr
                have zcg1 : cg1 d 0 = nI 0 := by rw [hcg1]; exact ce_up_at _ _ _ _
                have ycg1 : ce_fr d (d + 11) g cg1 := fun x hx => by rw [hcg1]; exact ce_up_ne _ _ _ (by omega)
                refine ce_if_eqN (tgt := 93) dX8_give_88 (by decide) rfl (by omega) (fun c_88 => ?_) (fun c_88 => ?_)
                · refine ce_aload_n dX8_give_93 rfl ?_
                  refine ce_cVu dX8_give_94 hX8_remember kRX8_194 (m_X8_remember d S hD Mcg1) rfl rfl hD.1 rfl (by decide) (Nat.le_of_ble_eq_true rfl) (fun cg2 hcg2 => ?_)
                  have Rcg2 : cr_row (cg2 (d + 3)) (kq (sK S)) (sO S) := by rw [hcg2.2.2 _ (by omega) (by omega)]; exact Mcg1.2.1
                  refine ce_aload_n dX8_give_97 rfl ?_
                  refine ce_getR dX8_give_98 fRX8_16 hD.1 hD.2.1.2.2.1 ?_
                  refine ce_iload_n dX8_give_101 rfl ?_
                  refine ce_iload_n dX8_give_102 rfl ?_
                  refine ce_iload_n dX8_give_103 rfl ?_
                  refine ce_iload dX8_give_104 rfl ?_
                  refine ce_cSu dX8_give_106 hX8_goGive kRX8_217 (n_goGive ⟨(hD.2.2.2.2.1).1, (hD.2.2.2.2.1).2⟩ Rcg2 (m) (o) (w) (q) (by omega) (by omega) (by omega) (by omega) (by omega)) rfl rfl (by decide) (Nat.le_of_ble_eq_true rfl) (fun cg3 hcg3 => ?_)
                  refine ce_aload_n dX8_give_109 rfl ?_
                  refine ce_getR dX8_give_110 fRX8_16 hD.1 hD.2.1.2.2.1 ?_
                  refine ce_iload_n dX8_give_113 rfl ?_
                  refine ce_iload_n dX8_give_114 rfl ?_
                  refine ce_cSp dX8_give_115 hX8_hold kRX8_54 (m_X8_hold (o) (w)) rfl rfl (by decide) (Nat.le_of_ble_eq_true rfl) ?_
                  refine ce_iconst (v := nI (2)) dX8_give_118 (by decide) ?_
                  refine ce_iadd (z := nI (81 + 18 * o + 3 * w + 2)) dX8_give_119 (nI_add _ _) ?_
                  refine ce_ialdv dX8_give_120 (hD.2.2.2.2.1).1 rfl (hD.2.2.2.2.1).2 (by omega) (by decide) (((hcg3.1).h2 (by omega) (by omega)).trans (congrArg nI (by rw [kq_ne (by decide)]))) ?_
                  refine ce_iret dX8_give_121 rfl rfl (by decide) (by decide) ?_
                  obtain ⟨w1, w2, w3⟩ := rM_act Mcg1 hcg2 hcg3.1 (fun x h8 h3 => hcg3.2 x h3)
                  exact ⟨_, rfl, rfl, congrArg nI kv_han_9, w2.trans zcg1, w1, fun x hx => (w3 x hx).trans (ycg1 x hx)⟩
                · omega
            · refine ce_iconst (v := nI (2)) dX8_give_59 (by decide) ?_
              refine ce_goto (tgt := 85) dX8_give_60 (by decide) ?_
              exact absurd (hf.symm.trans (show kv_gifF (sK S) (nI m) (nI o) (nI w) (nI q) = 2 by unfold kv_gifF; (try unfold ce_n); (try simp only [em, eo, ew, eq, Int.toNat_natCast]); (try unfold ce_in at *); (repeat' split) <;> first | rfl | (exfalso; omega))) (by decide)
        · omega
set_option maxHeartbeats 2000000 in
set_option maxRecDepth 20000 in
theorem m_X8_cork_no {σ : ce_S} {g : ce_D} (d : Nat) (S : ks_S) (hD : ce_LM σ d) (hr : ce_rM g d S) (ok : ks_ok S) (x y : Int32) (f : Nat) (hf : kv_corF (sK S) x y = f) (h0 : f ≠ 0) : ce_CT (ce_r 5) mX8_cork [.ref (d), .int (x), .int (y)] σ g (ce_rv σ (fun z9 g1 => g1 d 0 = nI ((f + 1) / 2) ∧ ce_rM g1 d S ∧ ce_fr d (d + 11) g g1)) ce_no := by
  have hB := ok.1.i7
  have hM := ok.1.me
  have hW := ok.1.wi
  have hst := ok.1.st
  refine ce_enter (by decide) rfl (Nat.le_of_ble_eq_true rfl) (L := [some (.ref (d)), some (.int (x)), some (.int (y)), none]) rfl ?_
  refine ce_aload_n dX8_cork_0 rfl ?_
  refine ce_iload_n dX8_cork_1 rfl ?_
  refine ce_cVp dX8_cork_2 hX8_isMember kRX8_174 (n_isMember d (sK S) (sO S) hD hr.2.1 (x) (by omega)) rfl rfl hD.1 rfl (by decide) (Nat.le_of_ble_eq_true rfl) ?_
  refine ce_if_eqB (tgt := 20) dX8_cork_5 (by decide) rfl (fun c_5 => ?_) (fun c_5 => ?_)
  · refine ce_iconst (v := nI (0)) dX8_cork_20 (by decide) ?_
    refine ce_istore_n dX8_cork_21 (Nat.le_of_ble_eq_true rfl) rfl ?_
    refine ce_aload_n dX8_cork_22 rfl ?_
    refine ce_iload_n dX8_cork_23 rfl ?_
    refine ce_if_neN (tgt := 31) dX8_cork_24 (by decide) rfl (by omega) (fun c_24 => ?_) (fun c_24 => ?_)
    · omega
    · refine ce_iconst (v := nI (1)) dX8_cork_27 (by decide) ?_
      refine ce_goto (tgt := 51) dX8_cork_28 (by decide) ?_
      have ef : f = 1 := hf.symm.trans (show kv_corF (sK S) x y = 1 by unfold kv_corF; (try unfold ce_n); (try simp only [Int.toNat_natCast]); (try unfold ce_in at *); (repeat' split) <;> first | rfl | (exfalso; omega))
      refine ce_cVr dX8_cork_51 hX8_refused kRX8_115 (m_X8_refused1 d hD) rfl rfl hD.1 rfl (by decide) (Nat.le_of_ble_eq_true rfl) (fun rcg1 cg1 hcg1 => ?_)
      obtain ⟨ecg1, hcg1⟩ := hcg1
      have ecg1 : rcg1 = nI 1 := ecg1
      subst ecg1
      have Mcg1 : ce_rM cg1 d S := by rw [hcg1]; exact rM_ref hr
      have zcg1 : cg1 d 0 = nI 1 := by rw [hcg1]; exact ce_up_at _ _ _ _
      have ycg1 : ce_fr d (d + 11) g cg1 := fun x hx => by rw [hcg1]; exact ce_up_ne _ _ _ (by omega)
      refine ce_if_eqN (tgt := 59) dX8_cork_54 (by decide) rfl (by omega) (fun c_54 => ?_) (fun c_54 => ?_)
      · omega
      · refine ce_iconst (v := nI (0)) dX8_cork_57 (by decide) ?_
        refine ce_iret dX8_cork_58 rfl rfl (by decide) (by decide) ?_
        exact ⟨_, rfl, rfl, by rw [ef]; exact zcg1, Mcg1, ycg1⟩
  · refine ce_aload_n dX8_cork_8 rfl ?_
    refine ce_iload_n dX8_cork_9 rfl ?_
    refine ce_cVp dX8_cork_10 hX8_isWine kRX8_182 (n_isWine d (sK S) (sO S) hD hr.2.1 (y) (by omega)) rfl rfl hD.1 rfl (by decide) (Nat.le_of_ble_eq_true rfl) ?_
    refine ce_if_eqB (tgt := 20) dX8_cork_13 (by decide) rfl (fun c_13 => ?_) (fun c_13 => ?_)
    · refine ce_iconst (v := nI (0)) dX8_cork_20 (by decide) ?_
      refine ce_istore_n dX8_cork_21 (Nat.le_of_ble_eq_true rfl) rfl ?_
      refine ce_aload_n dX8_cork_22 rfl ?_
      refine ce_iload_n dX8_cork_23 rfl ?_
      refine ce_if_neN (tgt := 31) dX8_cork_24 (by decide) rfl (by omega) (fun c_24 => ?_) (fun c_24 => ?_)
      · omega
      · refine ce_iconst (v := nI (1)) dX8_cork_27 (by decide) ?_
        refine ce_goto (tgt := 51) dX8_cork_28 (by decide) ?_
        have ef : f = 1 := hf.symm.trans (show kv_corF (sK S) x y = 1 by unfold kv_corF; (try unfold ce_n); (try simp only [Int.toNat_natCast]); (try unfold ce_in at *); (repeat' split) <;> first | rfl | (exfalso; omega))
        refine ce_cVr dX8_cork_51 hX8_refused kRX8_115 (m_X8_refused1 d hD) rfl rfl hD.1 rfl (by decide) (Nat.le_of_ble_eq_true rfl) (fun rcg1 cg1 hcg1 => ?_)
        obtain ⟨ecg1, hcg1⟩ := hcg1
        have ecg1 : rcg1 = nI 1 := ecg1
        subst ecg1
        have Mcg1 : ce_rM cg1 d S := by rw [hcg1]; exact rM_ref hr
        have zcg1 : cg1 d 0 = nI 1 := by rw [hcg1]; exact ce_up_at _ _ _ _
        have ycg1 : ce_fr d (d + 11) g cg1 := fun x hx => by rw [hcg1]; exact ce_up_ne _ _ _ (by omega)
        refine ce_if_eqN (tgt := 59) dX8_cork_54 (by decide) rfl (by omega) (fun c_54 => ?_) (fun c_54 => ?_)
        · omega
        · refine ce_iconst (v := nI (0)) dX8_cork_57 (by decide) ?_
          refine ce_iret dX8_cork_58 rfl rfl (by decide) (by decide) ?_
          exact ⟨_, rfl, rfl, by rw [ef]; exact zcg1, Mcg1, ycg1⟩
    · refine ce_iconst (v := nI (1)) dX8_cork_16 (by decide) ?_
      refine ce_goto (tgt := 21) dX8_cork_17 (by decide) ?_
      refine ce_istore_n dX8_cork_21 (Nat.le_of_ble_eq_true rfl) rfl ?_
      refine ce_aload_n dX8_cork_22 rfl ?_
      refine ce_iload_n dX8_cork_23 rfl ?_
      refine ce_if_neN (tgt := 31) dX8_cork_24 (by decide) rfl (by omega) (fun c_24 => ?_) (fun c_24 => ?_)
      · obtain ⟨m, hm, rfl⟩ := ce_in_ex c_5
        have em := nI_toInt (n := m) (by omega)
        obtain ⟨w, hw, rfl⟩ := ce_in_ex c_13
        have ew := nI_toInt (n := w) (by omega)
        have hl := ok.1.le (m := m) (w := w) (by omega) (by omega)
        have hs := hst w
        refine ce_aload_n dX8_cork_31 rfl ?_
        refine ce_getR dX8_cork_32 fRX8_16 hD.1 hD.2.1.2.2.1 ?_
        refine ce_iload_n dX8_cork_35 rfl ?_
        refine ce_iload_n dX8_cork_36 rfl ?_
        refine ce_cSp dX8_cork_37 hX8_hold kRX8_54 (m_X8_hold (m) (w)) rfl rfl (by decide) (Nat.le_of_ble_eq_true rfl) ?_
        refine ce_iconst (v := nI (2)) dX8_cork_40 (by decide) ?_
        refine ce_iadd (z := nI (81 + 18 * m + 3 * w + 2)) dX8_cork_41 (nI_add _ _) ?_
        refine ce_ialdv dX8_cork_42 (hD.2.2.2.2.1).1 rfl (hD.2.2.2.2.1).2 (by omega) (by decide) (((hr.2.1).h2 (by omega) (by omega)).trans (congrArg nI (by rw [kq_ne (by decide)]))) ?_
        refine ce_if_leN (tgt := 50) dX8_cork_43 (by decide) rfl (by omega) (fun c_43 => ?_) (fun c_43 => ?_)
        · refine ce_iconst (v := nI (2)) dX8_cork_50 (by decide) ?_
          have ef : f = 3 := hf.symm.trans (show kv_corF (sK S) (nI m) (nI w) = 3 by unfold kv_corF; (try unfold ce_n); (try simp only [em, ew, Int.toNat_natCast]); (try unfold ce_in at *); (repeat' split) <;> first | rfl | (exfalso; omega))
          refine ce_cVr dX8_cork_51 hX8_refused kRX8_115 (m_X8_refused2 d hD) rfl rfl hD.1 rfl (by decide) (Nat.le_of_ble_eq_true rfl) (fun rcg1 cg1 hcg1 => ?_)
          obtain ⟨ecg1, hcg1⟩ := hcg1
          have ecg1 : rcg1 = nI 1 := ecg1
          subst ecg1
          have Mcg1 : ce_rM cg1 d S := by rw [hcg1]; exact rM_ref hr
          have zcg1 : cg1 d 0 = nI 2 := by rw [hcg1]; exact ce_up_at _ _ _ _
          have ycg1 : ce_fr d (d + 11) g cg1 := fun x hx => by rw [hcg1]; exact ce_up_ne _ _ _ (by omega)
          refine ce_if_eqN (tgt := 59) dX8_cork_54 (by decide) rfl (by omega) (fun c_54 => ?_) (fun c_54 => ?_)
          · omega
          · refine ce_iconst (v := nI (0)) dX8_cork_57 (by decide) ?_
            refine ce_iret dX8_cork_58 rfl rfl (by decide) (by decide) ?_
            exact ⟨_, rfl, rfl, by rw [ef]; exact zcg1, Mcg1, ycg1⟩
        · refine ce_iconst (v := nI (0)) dX8_cork_46 (by decide) ?_
          refine ce_goto (tgt := 51) dX8_cork_47 (by decide) ?_
          have ef : f = 0 := hf.symm.trans (show kv_corF (sK S) (nI m) (nI w) = 0 by unfold kv_corF; (try unfold ce_n); (try simp only [em, ew, Int.toNat_natCast]); (try unfold ce_in at *); (repeat' split) <;> first | rfl | (exfalso; omega))
          exact absurd ef h0
      · omega
set_option maxHeartbeats 2000000 in
set_option maxRecDepth 20000 in
theorem m_X8_cork_ok {σ : ce_S} {g : ce_D} (d : Nat) (S : ks_S) (hD : ce_LM σ d) (hr : ce_rM g d S) (ok : ks_ok S) (m w : Nat) (hm : m < sK S 0 0) (hw : w < sK S 0 1) (hf : kv_corF (sK S) (nI m) (nI w) = 0) : ce_CT (ce_r 5) mX8_cork [.ref (d), .int (nI (m)), .int (nI (w))] σ g (ce_rv σ (fun z9 g1 => z9 = nI (if 0 < sK S 4 w then 1 else 0) ∧ g1 d 0 = nI 0 ∧ ce_rM g1 d (ks_act S (kv_cor (sK S) m w) (ko_cor (sK S) m w (sO S))) ∧ ce_fr d (d + 11) g g1)) ce_no := by
  have hB := ok.1.i7
  have hM := ok.1.me
  have hW := ok.1.wi
  have hst := ok.1.st
  have em := nI_toInt (n := m) (by omega)
  have ew := nI_toInt (n := w) (by omega)
  have hl := ok.1.le (m := m) (w := w) (by omega) (by omega)
  have hs := hst w
  refine ce_enter (by decide) rfl (Nat.le_of_ble_eq_true rfl) (L := [some (.ref (d)), some (.int (nI (m))), some (.int (nI (w))), none]) rfl ?_
  refine ce_aload_n dX8_cork_0 rfl ?_
  refine ce_iload_n dX8_cork_1 rfl ?_
  refine ce_cVp dX8_cork_2 hX8_isMember kRX8_174 (n_isMember d (sK S) (sO S) hD hr.2.1 (nI (m)) (by omega)) rfl rfl hD.1 rfl (by decide) (Nat.le_of_ble_eq_true rfl) ?_
  refine ce_if_eqB (tgt := 20) dX8_cork_5 (by decide) rfl (fun c_5 => ?_) (fun c_5 => ?_)
  · refine ce_iconst (v := nI (0)) dX8_cork_20 (by decide) ?_
    refine ce_istore_n dX8_cork_21 (Nat.le_of_ble_eq_true rfl) rfl ?_
    refine ce_aload_n dX8_cork_22 rfl ?_
    refine ce_iload_n dX8_cork_23 rfl ?_
    refine ce_if_neN (tgt := 31) dX8_cork_24 (by decide) rfl (by omega) (fun c_24 => ?_) (fun c_24 => ?_)
    · omega
    · refine ce_iconst (v := nI (1)) dX8_cork_27 (by decide) ?_
      refine ce_goto (tgt := 51) dX8_cork_28 (by decide) ?_
      exact absurd (hf.symm.trans (show kv_corF (sK S) (nI m) (nI w) = 1 by unfold kv_corF; (try unfold ce_n); (try simp only [em, ew, Int.toNat_natCast]); (try unfold ce_in at *); (repeat' split) <;> first | rfl | (exfalso; omega))) (by decide)
  · refine ce_aload_n dX8_cork_8 rfl ?_
    refine ce_iload_n dX8_cork_9 rfl ?_
    refine ce_cVp dX8_cork_10 hX8_isWine kRX8_182 (n_isWine d (sK S) (sO S) hD hr.2.1 (nI (w)) (by omega)) rfl rfl hD.1 rfl (by decide) (Nat.le_of_ble_eq_true rfl) ?_
    refine ce_if_eqB (tgt := 20) dX8_cork_13 (by decide) rfl (fun c_13 => ?_) (fun c_13 => ?_)
    · refine ce_iconst (v := nI (0)) dX8_cork_20 (by decide) ?_
      refine ce_istore_n dX8_cork_21 (Nat.le_of_ble_eq_true rfl) rfl ?_
      refine ce_aload_n dX8_cork_22 rfl ?_
      refine ce_iload_n dX8_cork_23 rfl ?_
      refine ce_if_neN (tgt := 31) dX8_cork_24 (by decide) rfl (by omega) (fun c_24 => ?_) (fun c_24 => ?_)
      · omega
      · refine ce_iconst (v := nI (1)) dX8_cork_27 (by decide) ?_
        refine ce_goto (tgt := 51) dX8_cork_28 (by decide) ?_
        exact absurd (hf.symm.trans (show kv_corF (sK S) (nI m) (nI w) = 1 by unfold kv_corF; (try unfold ce_n); (try simp only [em, ew, Int.toNat_natCast]); (try unfold ce_in at *); (repeat' split) <;> first | rfl | (exfalso; omega))) (by decide)
    · refine ce_iconst (v := nI (1)) dX8_cork_16 (by decide) ?_
      refine ce_goto (tgt := 21) dX8_cork_17 (by decide) ?_
      refine ce_istore_n dX8_cork_21 (Nat.le_of_ble_eq_true rfl) rfl ?_
      refine ce_aload_n dX8_cork_22 rfl ?_
      refine ce_iload_n dX8_cork_23 rfl ?_
      refine ce_if_neN (tgt := 31) dX8_cork_24 (by decide) rfl (by omega) (fun c_24 => ?_) (fun c_24 => ?_)
      · refine ce_aload_n dX8_cork_31 rfl ?_
        refine ce_getR dX8_cork_32 fRX8_16 hD.1 hD.2.1.2.2.1 ?_
        refine ce_iload_n dX8_cork_35 rfl ?_
        refine ce_iload_n dX8_cork_36 rfl ?_
        refine ce_cSp dX8_cork_37 hX8_hold kRX8_54 (m_X8_hold (m) (w)) rfl rfl (by decide) (Nat.le_of_ble_eq_true rfl) ?_
        refine ce_iconst (v := nI (2)) dX8_cork_40 (by decide) ?_
        refine ce_iadd (z := nI (81 + 18 * m + 3 * w + 2)) dX8_cork_41 (nI_add _ _) ?_
        refine ce_ialdv dX8_cork_42 (hD.2.2.2.2.1).1 rfl (hD.2.2.2.2.1).2 (by omega) (by decide) (((hr.2.1).h2 (by omega) (by omega)).trans (congrArg nI (by rw [kq_ne (by decide)]))) ?_
        refine ce_if_leN (tgt := 50) dX8_cork_43 (by decide) rfl (by omega) (fun c_43 => ?_) (fun c_43 => ?_)
        · refine ce_iconst (v := nI (2)) dX8_cork_50 (by decide) ?_
          exact absurd (hf.symm.trans (show kv_corF (sK S) (nI m) (nI w) = 3 by unfold kv_corF; (try unfold ce_n); (try simp only [em, ew, Int.toNat_natCast]); (try unfold ce_in at *); (repeat' split) <;> first | rfl | (exfalso; omega))) (by decide)
        · refine ce_iconst (v := nI (0)) dX8_cork_46 (by decide) ?_
          refine ce_goto (tgt := 51) dX8_cork_47 (by decide) ?_
          refine ce_cVr dX8_cork_51 hX8_refused kRX8_115 (m_X8_refused0 d hD) rfl rfl hD.1 rfl (by decide) (Nat.le_of_ble_eq_true rfl) (fun rcg1 cg1 hcg1 => ?_)
          obtain ⟨ecg1, hcg1⟩ := hcg1
          have ecg1 : rcg1 = nI 0 := ecg1
          subst ecg1
          have Mcg1 : ce_rM cg1 d S := by rw [hcg1]; exact rM_ref hr
          have zcg1 : cg1 d 0 = nI 0 := by rw [hcg1]; exact ce_up_at _ _ _ _
          have ycg1 : ce_fr d (d + 11) g cg1 := fun x hx => by rw [hcg1]; exact ce_up_ne _ _ _ (by omega)
          refine ce_if_eqN (tgt := 59) dX8_cork_54 (by decide) rfl (by omega) (fun c_54 => ?_) (fun c_54 => ?_)
          · refine ce_aload_n dX8_cork_59 rfl ?_
            refine ce_cVu dX8_cork_60 hX8_remember kRX8_194 (m_X8_remember d S hD Mcg1) rfl rfl hD.1 rfl (by decide) (Nat.le_of_ble_eq_true rfl) (fun cg2 hcg2 => ?_)
            have Rcg2 : cr_row (cg2 (d + 3)) (kq (sK S)) (sO S) := by rw [hcg2.2.2 _ (by omega) (by omega)]; exact Mcg1.2.1
            refine ce_aload_n dX8_cork_63 rfl ?_
            refine ce_getR dX8_cork_64 fRX8_16 hD.1 hD.2.1.2.2.1 ?_
            refine ce_iload_n dX8_cork_67 rfl ?_
            refine ce_iload_n dX8_cork_68 rfl ?_
            refine ce_cSr dX8_cork_69 hX8_goCork kRX8_221 (n_goCork ⟨(hD.2.2.2.2.1).1, (hD.2.2.2.2.1).2⟩ ok.1 Rcg2 (m) (w) (by omega) (by omega) (by omega)) rfl rfl (by decide) (Nat.le_of_ble_eq_true rfl) (fun rcg3 cg3 hcg3 => ?_)
            refine ce_iret dX8_cork_72 rfl rfl (by decide) (by decide) ?_
            obtain ⟨w1, w2, w3⟩ := rM_act Mcg1 hcg2 hcg3.2.1 (fun x h8 h3 => hcg3.2.2 x h3)
            exact ⟨_, rfl, rfl, hcg3.1, w2.trans zcg1, w1, fun x hx => (w3 x hx).trans (ycg1 x hx)⟩
          · omega
      · omega
set_option maxHeartbeats 2000000 in
set_option maxRecDepth 20000 in
theorem m_X8_move_no {σ : ce_S} {g : ce_D} (d : Nat) (S : ks_S) (hD : ce_LM σ d) (hr : ce_rM g d S) (ok : ks_ok S) (x y n : Int32) (f : Nat) (hf : kv_carF (sK S) x y n = f) (h0 : f ≠ 0) : ce_CT (ce_r 5) mX8_move [.ref (d), .int (x), .int (y), .int (n)] σ g (ce_rv σ (fun z9 g1 => g1 d 0 = nI (f) ∧ ce_rM g1 d S ∧ ce_fr d (d + 11) g g1)) ce_no := by
  have hB := ok.1.i7
  have hM := ok.1.me
  have hW := ok.1.wi
  have hst := ok.1.st
  refine ce_enter (by decide) rfl (Nat.le_of_ble_eq_true rfl) (L := [some (.ref (d)), some (.int (x)), some (.int (y)), some (.int (n)), none]) rfl ?_
  refine ce_aload_n dX8_move_0 rfl ?_
  refine ce_iload_n dX8_move_1 rfl ?_
  refine ce_cVp dX8_move_2 hX8_isBin kRX8_187 (n_isBin d (sK S) (sO S) hD hr.2.1 (x) (by omega)) rfl rfl hD.1 rfl (by decide) (Nat.le_of_ble_eq_true rfl) ?_
  refine ce_if_eqB (tgt := 20) dX8_move_5 (by decide) rfl (fun c_5 => ?_) (fun c_5 => ?_)
  · refine ce_iconst (v := nI (0)) dX8_move_20 (by decide) ?_
    refine ce_istore dX8_move_21 (Nat.le_of_ble_eq_true rfl) rfl ?_
    refine ce_aload_n dX8_move_23 rfl ?_
    refine ce_iload dX8_move_24 rfl ?_
    refine ce_if_neN (tgt := 33) dX8_move_26 (by decide) rfl (by omega) (fun c_26 => ?_) (fun c_26 => ?_)
    · omega
    · refine ce_iconst (v := nI (1)) dX8_move_29 (by decide) ?_
      refine ce_goto (tgt := 72) dX8_move_30 (by decide) ?_
      have ef : f = 1 := hf.symm.trans (show kv_carF (sK S) x y n = 1 by unfold kv_carF; (try unfold ce_n); (try simp only [Int.toNat_natCast]); (try unfold ce_in at *); (repeat' split) <;> first | rfl | (exfalso; omega))
      refine ce_cVr dX8_move_72 hX8_refused kRX8_115 (m_X8_refused1 d hD) rfl rfl hD.1 rfl (by decide) (Nat.le_of_ble_eq_true rfl) (fun rcg1 cg1 hcg1 => ?_)
      obtain ⟨ecg1, hcg1⟩ := hcg1
      have ecg1 : rcg1 = nI 1 := ecg1
      subst ecg1
      have Mcg1 : ce_rM cg1 d S := by rw [hcg1]; exact rM_ref hr
      have zcg1 : cg1 d 0 = nI 1 := by rw [hcg1]; exact ce_up_at _ _ _ _
      have ycg1 : ce_fr d (d + 11) g cg1 := fun x hx => by rw [hcg1]; exact ce_up_ne _ _ _ (by omega)
      refine ce_if_eqN (tgt := 80) dX8_move_75 (by decide) rfl (by omega) (fun c_75 => ?_) (fun c_75 => ?_)
      · omega
      · refine ce_iconst (v := nI (0)) dX8_move_78 (by decide) ?_
        refine ce_iret dX8_move_79 rfl rfl (by decide) (by decide) ?_
        exact ⟨_, rfl, rfl, by rw [ef]; exact zcg1, Mcg1, ycg1⟩
  · refine ce_aload_n dX8_move_8 rfl ?_
    refine ce_iload_n dX8_move_9 rfl ?_
    refine ce_cVp dX8_move_10 hX8_isBin kRX8_187 (n_isBin d (sK S) (sO S) hD hr.2.1 (y) (by omega)) rfl rfl hD.1 rfl (by decide) (Nat.le_of_ble_eq_true rfl) ?_
    refine ce_if_eqB (tgt := 20) dX8_move_13 (by decide) rfl (fun c_13 => ?_) (fun c_13 => ?_)
    · refine ce_iconst (v := nI (0)) dX8_move_20 (by decide) ?_
      refine ce_istore dX8_move_21 (Nat.le_of_ble_eq_true rfl) rfl ?_
      refine ce_aload_n dX8_move_23 rfl ?_
      refine ce_iload dX8_move_24 rfl ?_
      refine ce_if_neN (tgt := 33) dX8_move_26 (by decide) rfl (by omega) (fun c_26 => ?_) (fun c_26 => ?_)
      · omega
      · refine ce_iconst (v := nI (1)) dX8_move_29 (by decide) ?_
        refine ce_goto (tgt := 72) dX8_move_30 (by decide) ?_
        have ef : f = 1 := hf.symm.trans (show kv_carF (sK S) x y n = 1 by unfold kv_carF; (try unfold ce_n); (try simp only [Int.toNat_natCast]); (try unfold ce_in at *); (repeat' split) <;> first | rfl | (exfalso; omega))
        refine ce_cVr dX8_move_72 hX8_refused kRX8_115 (m_X8_refused1 d hD) rfl rfl hD.1 rfl (by decide) (Nat.le_of_ble_eq_true rfl) (fun rcg1 cg1 hcg1 => ?_)
        obtain ⟨ecg1, hcg1⟩ := hcg1
        have ecg1 : rcg1 = nI 1 := ecg1
        subst ecg1
        have Mcg1 : ce_rM cg1 d S := by rw [hcg1]; exact rM_ref hr
        have zcg1 : cg1 d 0 = nI 1 := by rw [hcg1]; exact ce_up_at _ _ _ _
        have ycg1 : ce_fr d (d + 11) g cg1 := fun x hx => by rw [hcg1]; exact ce_up_ne _ _ _ (by omega)
        refine ce_if_eqN (tgt := 80) dX8_move_75 (by decide) rfl (by omega) (fun c_75 => ?_) (fun c_75 => ?_)
        · omega
        · refine ce_iconst (v := nI (0)) dX8_move_78 (by decide) ?_
          refine ce_iret dX8_move_79 rfl rfl (by decide) (by decide) ?_
          exact ⟨_, rfl, rfl, by rw [ef]; exact zcg1, Mcg1, ycg1⟩
    · refine ce_iconst (v := nI (1)) dX8_move_16 (by decide) ?_
      refine ce_goto (tgt := 21) dX8_move_17 (by decide) ?_
      refine ce_istore dX8_move_21 (Nat.le_of_ble_eq_true rfl) rfl ?_
      refine ce_aload_n dX8_move_23 rfl ?_
      refine ce_iload dX8_move_24 rfl ?_
      refine ce_if_neN (tgt := 33) dX8_move_26 (by decide) rfl (by omega) (fun c_26 => ?_) (fun c_26 => ?_)
      · obtain ⟨p, hp, rfl⟩ := ce_in_ex c_5
        have ep := nI_toInt (n := p) (by omega)
        obtain ⟨u, hu, rfl⟩ := ce_in_ex c_13
        have eu := nI_toInt (n := u) (by omega)
        refine ce_iload_n dX8_move_33 rfl ?_
        refine ce_iload_n dX8_move_34 rfl ?_
        refine ce_icmp_eqN (tgt := 50) dX8_move_35 (by decide) rfl rfl (by omega) (by omega) (fun c_35 => ?_) (fun c_35 => ?_)
        · refine ce_iconst (v := nI (2)) dX8_move_50 (by decide) ?_
          refine ce_goto (tgt := 72) dX8_move_51 (by decide) ?_
          have ef : f = 2 := hf.symm.trans (show kv_carF (sK S) (nI p) (nI u) n = 2 by unfold kv_carF; (try unfold ce_n); (try simp only [ep, eu, Int.toNat_natCast]); (try unfold ce_in at *); (repeat' split) <;> first | rfl | (exfalso; omega))
          refine ce_cVr dX8_move_72 hX8_refused kRX8_115 (m_X8_refused2 d hD) rfl rfl hD.1 rfl (by decide) (Nat.le_of_ble_eq_true rfl) (fun rcg1 cg1 hcg1 => ?_)
          obtain ⟨ecg1, hcg1⟩ := hcg1
          have ecg1 : rcg1 = nI 1 := ecg1
          subst ecg1
          have Mcg1 : ce_rM cg1 d S := by rw [hcg1]; exact rM_ref hr
          have zcg1 : cg1 d 0 = nI 2 := by rw [hcg1]; exact ce_up_at _ _ _ _
          have ycg1 : ce_fr d (d + 11) g cg1 := fun x hx => by rw [hcg1]; exact ce_up_ne _ _ _ (by omega)
          refine ce_if_eqN (tgt := 80) dX8_move_75 (by decide) rfl (by omega) (fun c_75 => ?_) (fun c_75 => ?_)
          · omega
          · refine ce_iconst (v := nI (0)) dX8_move_78 (by decide) ?_
            refine ce_iret dX8_move_79 rfl rfl (by decide) (by decide) ?_
            exact ⟨_, rfl, rfl, by rw [ef]; exact zcg1, Mcg1, ycg1⟩
        · refine ce_iload_n dX8_move_38 rfl ?_
          refine ce_i2l (v := (n).toInt64) dX8_move_39 rfl ?_
          refine ce_lconst (v := 1) dX8_move_40 (by decide) ?_
          refine ce_ldc2 dX8_move_41 kRX8_201 ?_
          refine ce_cSp dX8_move_44 hX8_in kRX8_108 (m_X8_in ((n).toInt64) (1) (24) ((1 : Int) ≤ (n).toInt ∧ (n).toInt ≤ (24 : Int)) (cr_io ((cr_tl (n)).trans rfl) (by decide) (by decide))) rfl rfl (by decide) (Nat.le_of_ble_eq_true rfl) ?_
          refine ce_if_neB (tgt := 54) dX8_move_47 (by decide) rfl (fun c_47 => ?_) (fun c_47 => ?_)
          · obtain ⟨q, hq, hq2, rfl⟩ :=  (ce_ran_ex (lo := 1) (hi := 24) (x := n) ⟨by omega, by omega⟩)
            have eq := nI_toInt (n := q) (by omega)
            refine ce_aload_n dX8_move_54 rfl ?_
            refine ce_getR dX8_move_55 fRX8_16 hD.1 hD.2.1.2.2.1 ?_
            refine ce_iload_n dX8_move_58 rfl ?_
            refine ce_iload_n dX8_move_59 rfl ?_
            refine ce_iload_n dX8_move_60 rfl ?_
            refine ce_cSp dX8_move_61 hX8_canMove kRX8_224 (n_canMove ⟨(hD.2.2.2.2.1).1, (hD.2.2.2.2.1).2⟩ ok.1 hr.2.1 (p) (u) (q) (by omega) (by omega) (by omega)) rfl rfl (by decide) (Nat.le_of_ble_eq_true rfl) ?_
            refine ce_if_eqB (tgt := 71) dX8_move_64 (by decide) rfl (fun c_64 => ?_) (fun c_64 => ?_)
            · refine ce_iconst (v := nI (3)) dX8_move_71 (by decide) ?_
              have ef : f = 3 := hf.symm.trans (show kv_carF (sK S) (nI p) (nI u) (nI q) = 3 by unfold kv_carF; (try unfold ce_n); (try simp only [ep, eu, eq, Int.toNat_natCast]); (try unfold ce_in at *); (repeat' split) <;> first | rfl | (exfalso; omega))
              refine ce_cVr dX8_move_72 hX8_refused kRX8_115 (m_X8_refused3 d hD) rfl rfl hD.1 rfl (by decide) (Nat.le_of_ble_eq_true rfl) (fun rcg1 cg1 hcg1 => ?_)
              obtain ⟨ecg1, hcg1⟩ := hcg1
              have ecg1 : rcg1 = nI 1 := ecg1
              subst ecg1
              have Mcg1 : ce_rM cg1 d S := by rw [hcg1]; exact rM_ref hr
              have zcg1 : cg1 d 0 = nI 3 := by rw [hcg1]; exact ce_up_at _ _ _ _
              have ycg1 : ce_fr d (d + 11) g cg1 := fun x hx => by rw [hcg1]; exact ce_up_ne _ _ _ (by omega)
              refine ce_if_eqN (tgt := 80) dX8_move_75 (by decide) rfl (by omega) (fun c_75 => ?_) (fun c_75 => ?_)
              · omega
              · refine ce_iconst (v := nI (0)) dX8_move_78 (by decide) ?_
                refine ce_iret dX8_move_79 rfl rfl (by decide) (by decide) ?_
                exact ⟨_, rfl, rfl, by rw [ef]; exact zcg1, Mcg1, ycg1⟩
            · refine ce_iconst (v := nI (0)) dX8_move_67 (by decide) ?_
              refine ce_goto (tgt := 72) dX8_move_68 (by decide) ?_
              have ef : f = 0 := hf.symm.trans (show kv_carF (sK S) (nI p) (nI u) (nI q) = 0 by unfold kv_carF; (try unfold ce_n); (try simp only [ep, eu, eq, Int.toNat_natCast]); (try unfold ce_in at *); (repeat' split) <;> first | rfl | (exfalso; omega))
              exact absurd ef h0
          · refine ce_iconst (v := nI (2)) dX8_move_50 (by decide) ?_
            refine ce_goto (tgt := 72) dX8_move_51 (by decide) ?_
            have ef : f = 2 := hf.symm.trans (show kv_carF (sK S) (nI p) (nI u) n = 2 by unfold kv_carF; (try unfold ce_n); (try simp only [ep, eu, Int.toNat_natCast]); (try unfold ce_in at *); (repeat' split) <;> first | rfl | (exfalso; omega))
            refine ce_cVr dX8_move_72 hX8_refused kRX8_115 (m_X8_refused2 d hD) rfl rfl hD.1 rfl (by decide) (Nat.le_of_ble_eq_true rfl) (fun rcg1 cg1 hcg1 => ?_)
            obtain ⟨ecg1, hcg1⟩ := hcg1
            have ecg1 : rcg1 = nI 1 := ecg1
            subst ecg1
            have Mcg1 : ce_rM cg1 d S := by rw [hcg1]; exact rM_ref hr
            have zcg1 : cg1 d 0 = nI 2 := by rw [hcg1]; exact ce_up_at _ _ _ _
            have ycg1 : ce_fr d (d + 11) g cg1 := fun x hx => by rw [hcg1]; exact ce_up_ne _ _ _ (by omega)
            refine ce_if_eqN (tgt := 80) dX8_move_75 (by decide) rfl (by omega) (fun c_75 => ?_) (fun c_75 => ?_)
            · omega
            · refine ce_iconst (v := nI (0)) dX8_move_78 (by decide) ?_
              refine ce_iret dX8_move_79 rfl rfl (by decide) (by decide) ?_
              exact ⟨_, rfl, rfl, by rw [ef]; exact zcg1, Mcg1, ycg1⟩
      · omega
set_option maxHeartbeats 2000000 in
set_option maxRecDepth 20000 in
theorem m_X8_move_ok {σ : ce_S} {g : ce_D} (d : Nat) (S : ks_S) (hD : ce_LM σ d) (hr : ce_rM g d S) (ok : ks_ok S) (p u q : Nat) (hp9 : p < sK S 0 2) (hu9 : u < sK S 0 2) (hpu : p ≠ u) (hq9 : q ≤ 60) (hf : kv_carF (sK S) (nI p) (nI u) (nI q) = 0) : ce_CT (ce_r 5) mX8_move [.ref (d), .int (nI (p)), .int (nI (u)), .int (nI (q))] σ g (ce_rv σ (fun z9 g1 => z9 = nI (sK S 12 u + q) ∧ g1 d 0 = nI 0 ∧ ce_rM g1 d (ks_act S (kv_car (sK S) p u q) (sO S)) ∧ ce_fr d (d + 11) g g1)) ce_no := by
  have hB := ok.1.i7
  have hM := ok.1.me
  have hW := ok.1.wi
  have hst := ok.1.st
  have ep := nI_toInt (n := p) (by omega)
  have eu := nI_toInt (n := u) (by omega)
  have eq := nI_toInt (n := q) (by omega)
  have h12p := ok.1.rk.2.1 p
  have h12u := ok.1.rk.2.1 u
  refine ce_enter (by decide) rfl (Nat.le_of_ble_eq_true rfl) (L := [some (.ref (d)), some (.int (nI (p))), some (.int (nI (u))), some (.int (nI (q))), none]) rfl ?_
  refine ce_aload_n dX8_move_0 rfl ?_
  refine ce_iload_n dX8_move_1 rfl ?_
  refine ce_cVp dX8_move_2 hX8_isBin kRX8_187 (n_isBin d (sK S) (sO S) hD hr.2.1 (nI (p)) (by omega)) rfl rfl hD.1 rfl (by decide) (Nat.le_of_ble_eq_true rfl) ?_
  refine ce_if_eqB (tgt := 20) dX8_move_5 (by decide) rfl (fun c_5 => ?_) (fun c_5 => ?_)
  · refine ce_iconst (v := nI (0)) dX8_move_20 (by decide) ?_
    refine ce_istore dX8_move_21 (Nat.le_of_ble_eq_true rfl) rfl ?_
    refine ce_aload_n dX8_move_23 rfl ?_
    refine ce_iload dX8_move_24 rfl ?_
    refine ce_if_neN (tgt := 33) dX8_move_26 (by decide) rfl (by omega) (fun c_26 => ?_) (fun c_26 => ?_)
    · omega
    · refine ce_iconst (v := nI (1)) dX8_move_29 (by decide) ?_
      refine ce_goto (tgt := 72) dX8_move_30 (by decide) ?_
      exact absurd (hf.symm.trans (show kv_carF (sK S) (nI p) (nI u) (nI q) = 1 by unfold kv_carF; (try unfold ce_n); (try simp only [ep, eu, eq, Int.toNat_natCast]); (try unfold ce_in at *); (repeat' split) <;> first | rfl | (exfalso; omega))) (by decide)
  · refine ce_aload_n dX8_move_8 rfl ?_
    refine ce_iload_n dX8_move_9 rfl ?_
    refine ce_cVp dX8_move_10 hX8_isBin kRX8_187 (n_isBin d (sK S) (sO S) hD hr.2.1 (nI (u)) (by omega)) rfl rfl hD.1 rfl (by decide) (Nat.le_of_ble_eq_true rfl) ?_
    refine ce_if_eqB (tgt := 20) dX8_move_13 (by decide) rfl (fun c_13 => ?_) (fun c_13 => ?_)
    · refine ce_iconst (v := nI (0)) dX8_move_20 (by decide) ?_
      refine ce_istore dX8_move_21 (Nat.le_of_ble_eq_true rfl) rfl ?_
      refine ce_aload_n dX8_move_23 rfl ?_
      refine ce_iload dX8_move_24 rfl ?_
      refine ce_if_neN (tgt := 33) dX8_move_26 (by decide) rfl (by omega) (fun c_26 => ?_) (fun c_26 => ?_)
      · omega
      · refine ce_iconst (v := nI (1)) dX8_move_29 (by decide) ?_
        refine ce_goto (tgt := 72) dX8_move_30 (by decide) ?_
        exact absurd (hf.symm.trans (show kv_carF (sK S) (nI p) (nI u) (nI q) = 1 by unfold kv_carF; (try unfold ce_n); (try simp only [ep, eu, eq, Int.toNat_natCast]); (try unfold ce_in at *); (repeat' split) <;> first | rfl | (exfalso; omega))) (by decide)
    · refine ce_iconst (v := nI (1)) dX8_move_16 (by decide) ?_
      refine ce_goto (tgt := 21) dX8_move_17 (by decide) ?_
      refine ce_istore dX8_move_21 (Nat.le_of_ble_eq_true rfl) rfl ?_
      refine ce_aload_n dX8_move_23 rfl ?_
      refine ce_iload dX8_move_24 rfl ?_
      refine ce_if_neN (tgt := 33) dX8_move_26 (by decide) rfl (by omega) (fun c_26 => ?_) (fun c_26 => ?_)
      · refine ce_iload_n dX8_move_33 rfl ?_
        refine ce_iload_n dX8_move_34 rfl ?_
        refine ce_icmp_eqN (tgt := 50) dX8_move_35 (by decide) rfl rfl (by omega) (by omega) (fun c_35 => ?_) (fun c_35 => ?_)
        · refine ce_iconst (v := nI (2)) dX8_move_50 (by decide) ?_
          refine ce_goto (tgt := 72) dX8_move_51 (by decide) ?_
          exact absurd (hf.symm.trans (show kv_carF (sK S) (nI p) (nI u) (nI q) = 2 by unfold kv_carF; (try unfold ce_n); (try simp only [ep, eu, eq, Int.toNat_natCast]); (try unfold ce_in at *); (repeat' split) <;> first | rfl | (exfalso; omega))) (by decide)
        · refine ce_iload_n dX8_move_38 rfl ?_
          refine ce_i2l (v := (nI (q)).toInt64) dX8_move_39 rfl ?_
          refine ce_lconst (v := 1) dX8_move_40 (by decide) ?_
          refine ce_ldc2 dX8_move_41 kRX8_201 ?_
          refine ce_cSp dX8_move_44 hX8_in kRX8_108 (m_X8_in ((nI (q)).toInt64) (1) (24) ((1 : Int) ≤ ((q : Nat) : Int) ∧ ((q : Nat) : Int) ≤ (24 : Int)) (cr_io ((cr_tl (nI (q))).trans (nI_toInt (by omega))) (by decide) (by decide))) rfl rfl (by decide) (Nat.le_of_ble_eq_true rfl) ?_
          refine ce_if_neB (tgt := 54) dX8_move_47 (by decide) rfl (fun c_47 => ?_) (fun c_47 => ?_)
          · refine ce_aload_n dX8_move_54 rfl ?_
            refine ce_getR dX8_move_55 fRX8_16 hD.1 hD.2.1.2.2.1 ?_
            refine ce_iload_n dX8_move_58 rfl ?_
            refine ce_iload_n dX8_move_59 rfl ?_
            refine ce_iload_n dX8_move_60 rfl ?_
            refine ce_cSp dX8_move_61 hX8_canMove kRX8_224 (n_canMove ⟨(hD.2.2.2.2.1).1, (hD.2.2.2.2.1).2⟩ ok.1 hr.2.1 (p) (u) (q) (by omega) (by omega) (by omega)) rfl rfl (by decide) (Nat.le_of_ble_eq_true rfl) ?_
            refine ce_if_eqB (tgt := 71) dX8_move_64 (by decide) rfl (fun c_64 => ?_) (fun c_64 => ?_)
            · refine ce_iconst (v := nI (3)) dX8_move_71 (by decide) ?_
              exact absurd (hf.symm.trans (show kv_carF (sK S) (nI p) (nI u) (nI q) = 3 by unfold kv_carF; (try unfold ce_n); (try simp only [ep, eu, eq, Int.toNat_natCast]); (try unfold ce_in at *); (repeat' split) <;> first | rfl | (exfalso; omega))) (by decide)
            · refine ce_iconst (v := nI (0)) dX8_move_67 (by decide) ?_
              refine ce_goto (tgt := 72) dX8_move_68 (by decide) ?_
              refine ce_cVr dX8_move_72 hX8_refused kRX8_115 (m_X8_refused0 d hD) rfl rfl hD.1 rfl (by decide) (Nat.le_of_ble_eq_true rfl) (fun rcg1 cg1 hcg1 => ?_)
              obtain ⟨ecg1, hcg1⟩ := hcg1
              have ecg1 : rcg1 = nI 0 := ecg1
              subst ecg1
              have Mcg1 : ce_rM cg1 d S := by rw [hcg1]; exact rM_ref hr
              have zcg1 : cg1 d 0 = nI 0 := by rw [hcg1]; exact ce_up_at _ _ _ _
              have ycg1 : ce_fr d (d + 11) g cg1 := fun x hx => by rw [hcg1]; exact ce_up_ne _ _ _ (by omega)
              refine ce_if_eqN (tgt := 80) dX8_move_75 (by decide) rfl (by omega) (fun c_75 => ?_) (fun c_75 => ?_)
              · refine ce_aload_n dX8_move_80 rfl ?_
                refine ce_cVu dX8_move_81 hX8_remember kRX8_194 (m_X8_remember d S hD Mcg1) rfl rfl hD.1 rfl (by decide) (Nat.le_of_ble_eq_true rfl) (fun cg2 hcg2 => ?_)
                have Rcg2 : cr_row (cg2 (d + 3)) (kq (sK S)) (sO S) := by rw [hcg2.2.2 _ (by omega) (by omega)]; exact Mcg1.2.1
                refine ce_aload_n dX8_move_84 rfl ?_
                refine ce_getR dX8_move_85 fRX8_16 hD.1 hD.2.1.2.2.1 ?_
                refine ce_iload_n dX8_move_88 rfl ?_
                refine ce_iload_n dX8_move_89 rfl ?_
                refine ce_iload_n dX8_move_90 rfl ?_
                refine ce_cSu dX8_move_91 hX8_goMove kRX8_228 (n_goMove ⟨(hD.2.2.2.2.1).1, (hD.2.2.2.2.1).2⟩ ok.1 Rcg2 (p) (u) (q) (by omega) (by omega) (by omega) (by omega)) rfl rfl (by decide) (Nat.le_of_ble_eq_true rfl) (fun cg3 hcg3 => ?_)
                refine ce_aload_n dX8_move_94 rfl ?_
                refine ce_getR dX8_move_95 fRX8_16 hD.1 hD.2.1.2.2.1 ?_
                refine ce_iload_n dX8_move_98 rfl ?_
                refine ce_cSp dX8_move_99 hX8_binAt kRX8_58 (m_X8_binAt (u)) rfl rfl (by decide) (Nat.le_of_ble_eq_true rfl) ?_
                refine ce_iconst (v := nI (2)) dX8_move_102 (by decide) ?_
                refine ce_iadd (z := nI (57 + 3 * u + 2)) dX8_move_103 (nI_add _ _) ?_
                refine ce_ialdv dX8_move_104 (hD.2.2.2.2.1).1 rfl (hD.2.2.2.2.1).2 (by omega) (by decide) (((hcg3.1).b2 (by omega)).trans (congrArg nI (by rw [kq_ne (by decide)]))) ?_
                refine ce_iret dX8_move_105 rfl rfl (by decide) (by decide) ?_
                obtain ⟨w1, w2, w3⟩ := rM_act Mcg1 hcg2 hcg3.1 (fun x h8 h3 => hcg3.2 x h3)
                exact ⟨_, rfl, rfl, congrArg nI (kv_car_y hpu), w2.trans zcg1, w1, fun x hx => (w3 x hx).trans (ycg1 x hx)⟩
              · omega
          · refine ce_iconst (v := nI (2)) dX8_move_50 (by decide) ?_
            refine ce_goto (tgt := 72) dX8_move_51 (by decide) ?_
            exact absurd (hf.symm.trans (show kv_carF (sK S) (nI p) (nI u) (nI q) = 2 by unfold kv_carF; (try unfold ce_n); (try simp only [ep, eu, eq, Int.toNat_natCast]); (try unfold ce_in at *); (repeat' split) <;> first | rfl | (exfalso; omega))) (by decide)
      · omega
def kx_payF (K : ce_V) (x : Int32) : Nat := if ce_in x (K 0 0) then 0 else 1
set_option maxHeartbeats 2000000 in
set_option maxRecDepth 20000 in
theorem m_X8_pay_no {σ : ce_S} {g : ce_D} (d : Nat) (S : ks_S) (hD : ce_LM σ d) (hr : ce_rM g d S) (ok : ks_ok S) (x : Int32) (f : Nat) (hf : kx_payF (sK S) x = f) (h0 : f ≠ 0) : ce_CT (ce_r 5) mX8_pay [.ref (d), .int (x)] σ g (ce_rv σ (fun z9 g1 => g1 d 0 = nI (f) ∧ ce_rM g1 d S ∧ ce_fr d (d + 11) g g1)) ce_no := by
  have hB := ok.1.i7
  have hM := ok.1.me
  have hW := ok.1.wi
  have hst := ok.1.st
  refine ce_enter (by decide) rfl (Nat.le_of_ble_eq_true rfl) (L := [some (.ref (d)), some (.int (x)), none]) rfl ?_
  refine ce_aload_n dX8_pay_0 rfl ?_
  refine ce_aload_n dX8_pay_1 rfl ?_
  refine ce_iload_n dX8_pay_2 rfl ?_
  refine ce_cVp dX8_pay_3 hX8_isMember kRX8_174 (n_isMember d (sK S) (sO S) hD hr.2.1 (x) (by omega)) rfl rfl hD.1 rfl (by decide) (Nat.le_of_ble_eq_true rfl) ?_
  refine ce_if_eqB (tgt := 13) dX8_pay_6 (by decide) rfl (fun c_6 => ?_) (fun c_6 => ?_)
  · refine ce_iconst (v := nI (1)) dX8_pay_13 (by decide) ?_
    have ef : f = 1 := hf.symm.trans (show kx_payF (sK S) x = 1 by unfold kx_payF; (try unfold ce_n); (try simp only [Int.toNat_natCast]); (try unfold ce_in at *); (repeat' split) <;> first | rfl | (exfalso; omega))
    refine ce_cVr dX8_pay_14 hX8_refused kRX8_115 (m_X8_refused1 d hD) rfl rfl hD.1 rfl (by decide) (Nat.le_of_ble_eq_true rfl) (fun rcg1 cg1 hcg1 => ?_)
    obtain ⟨ecg1, hcg1⟩ := hcg1
    have ecg1 : rcg1 = nI 1 := ecg1
    subst ecg1
    have Mcg1 : ce_rM cg1 d S := by rw [hcg1]; exact rM_ref hr
    have zcg1 : cg1 d 0 = nI 1 := by rw [hcg1]; exact ce_up_at _ _ _ _
    have ycg1 : ce_fr d (d + 11) g cg1 := fun x hx => by rw [hcg1]; exact ce_up_ne _ _ _ (by omega)
    refine ce_if_eqN (tgt := 22) dX8_pay_17 (by decide) rfl (by omega) (fun c_17 => ?_) (fun c_17 => ?_)
    · omega
    · refine ce_iconst (v := nI (0)) dX8_pay_20 (by decide) ?_
      refine ce_iret dX8_pay_21 rfl rfl (by decide) (by decide) ?_
      exact ⟨_, rfl, rfl, by rw [ef]; exact zcg1, Mcg1, ycg1⟩
  · refine ce_iconst (v := nI (0)) dX8_pay_9 (by decide) ?_
    refine ce_goto (tgt := 14) dX8_pay_10 (by decide) ?_
    have ef : f = 0 := hf.symm.trans (show kx_payF (sK S) x = 0 by unfold kx_payF; (try unfold ce_n); (try simp only [Int.toNat_natCast]); (try unfold ce_in at *); (repeat' split) <;> first | rfl | (exfalso; omega))
    exact absurd ef h0
set_option maxHeartbeats 2000000 in
set_option maxRecDepth 20000 in
theorem m_X8_pay_ok {σ : ce_S} {g : ce_D} (d : Nat) (S : ks_S) (hD : ce_LM σ d) (hr : ce_rM g d S) (ok : ks_ok S) (m : Nat) (hm : m < sK S 0 0) (hf : kx_payF (sK S) (nI m) = 0) : ce_CT (ce_r 5) mX8_pay [.ref (d), .int (nI (m))] σ g (ce_rv σ (fun z9 g1 => z9 = sO S m ∧ g1 d 0 = nI 0 ∧ ce_rM g1 d (ks_act S (sK S) (upd (sO S) m 0)) ∧ ce_fr d (d + 11) g g1)) ce_no := by
  have hB := ok.1.i7
  have hM := ok.1.me
  have hW := ok.1.wi
  have hst := ok.1.st
  have em := nI_toInt (n := m) (by omega)
  refine ce_enter (by decide) rfl (Nat.le_of_ble_eq_true rfl) (L := [some (.ref (d)), some (.int (nI (m))), none]) rfl ?_
  refine ce_aload_n dX8_pay_0 rfl ?_
  refine ce_aload_n dX8_pay_1 rfl ?_
  refine ce_iload_n dX8_pay_2 rfl ?_
  refine ce_cVp dX8_pay_3 hX8_isMember kRX8_174 (n_isMember d (sK S) (sO S) hD hr.2.1 (nI (m)) (by omega)) rfl rfl hD.1 rfl (by decide) (Nat.le_of_ble_eq_true rfl) ?_
  refine ce_if_eqB (tgt := 13) dX8_pay_6 (by decide) rfl (fun c_6 => ?_) (fun c_6 => ?_)
  · refine ce_iconst (v := nI (1)) dX8_pay_13 (by decide) ?_
    exact absurd (hf.symm.trans (show kx_payF (sK S) (nI m) = 1 by unfold kx_payF; (try unfold ce_n); (try simp only [em, Int.toNat_natCast]); (try unfold ce_in at *); (repeat' split) <;> first | rfl | (exfalso; omega))) (by decide)
  · refine ce_iconst (v := nI (0)) dX8_pay_9 (by decide) ?_
    refine ce_goto (tgt := 14) dX8_pay_10 (by decide) ?_
    refine ce_cVr dX8_pay_14 hX8_refused kRX8_115 (m_X8_refused0 d hD) rfl rfl hD.1 rfl (by decide) (Nat.le_of_ble_eq_true rfl) (fun rcg1 cg1 hcg1 => ?_)
    obtain ⟨ecg1, hcg1⟩ := hcg1
    have ecg1 : rcg1 = nI 0 := ecg1
    subst ecg1
    have Mcg1 : ce_rM cg1 d S := by rw [hcg1]; exact rM_ref hr
    have zcg1 : cg1 d 0 = nI 0 := by rw [hcg1]; exact ce_up_at _ _ _ _
    have ycg1 : ce_fr d (d + 11) g cg1 := fun x hx => by rw [hcg1]; exact ce_up_ne _ _ _ (by omega)
    refine ce_if_eqN (tgt := 22) dX8_pay_17 (by decide) rfl (by omega) (fun c_17 => ?_) (fun c_17 => ?_)
    · refine ce_aload_n dX8_pay_22 rfl ?_
      refine ce_cVu dX8_pay_23 hX8_remember kRX8_194 (m_X8_remember d S hD Mcg1) rfl rfl hD.1 rfl (by decide) (Nat.le_of_ble_eq_true rfl) (fun cg2 hcg2 => ?_)
      have Rcg2 : cr_row (cg2 (d + 3)) (kq (sK S)) (sO S) := by rw [hcg2.2.2 _ (by omega) (by omega)]; exact Mcg1.2.1
      refine ce_aload_n dX8_pay_26 rfl ?_
      refine ce_getR dX8_pay_27 fRX8_16 hD.1 hD.2.1.2.2.1 ?_
      refine ce_iload_n dX8_pay_30 rfl ?_
      refine ce_cSp dX8_pay_31 hX8_memberAt kRX8_83 (m_X8_memberAt (m)) rfl rfl (by decide) (Nat.le_of_ble_eq_true rfl) ?_
      refine ce_iconst (v := nI (1)) dX8_pay_34 (by decide) ?_
      refine ce_iadd (z := nI (3 + 3 * m + 1)) dX8_pay_35 (nI_add _ _) ?_
      refine ce_ialdv dX8_pay_36 (hD.2.2.2.2.1).1 rfl (hD.2.2.2.2.1).2 (by omega) (by decide) ((Rcg2).m1 (by omega)) ?_
      refine ce_istore_n dX8_pay_37 (Nat.le_of_ble_eq_true rfl) rfl ?_
      refine ce_aload_n dX8_pay_38 rfl ?_
      refine ce_getR dX8_pay_39 fRX8_16 hD.1 hD.2.1.2.2.1 ?_
      refine ce_iload_n dX8_pay_42 rfl ?_
      refine ce_cSp dX8_pay_43 hX8_memberAt kRX8_83 (m_X8_memberAt (m)) rfl rfl (by decide) (Nat.le_of_ble_eq_true rfl) ?_
      refine ce_iconst (v := nI (1)) dX8_pay_46 (by decide) ?_
      refine ce_iadd (z := nI (3 + 3 * m + 1)) dX8_pay_47 (nI_add _ _) ?_
      refine ce_iconst (v := nI (0)) dX8_pay_48 (by decide) ?_
      refine ce_iast dX8_pay_49 (hD.2.2.2.2.1).1 rfl (hD.2.2.2.2.1).2 (by omega) (by decide) ?_
      generalize hcg3 : ce_up cg2 (d + 3) (3 + 3 * m + 1) (nI (0)) = cg3
      have rcg3 : cr_row (cg3 (d + 3)) (kq (sK S)) (upd (sO S) m 0) := by rw [← hcg3, ce_up_eq]; exact (Rcg2).um1 (by omega) (nI 0)
      have fcg3 : ∀ x, x ≠ d + 3 → cg3 x = cg2 x := fun x h3 => by rw [← hcg3]; exact ce_up_ne _ _ _ h3
      refine ce_iload_n dX8_pay_50 rfl ?_
      refine ce_iret dX8_pay_51 rfl rfl (by decide) (by decide) ?_
      obtain ⟨w1, w2, w3⟩ := rM_act Mcg1 hcg2 rcg3 (fun x _ h3 => fcg3 x h3)
      exact ⟨_, rfl, rfl, rfl, w2.trans zcg1, w1, fun x hx => (w3 x hx).trans (ycg1 x hx)⟩
    · omega
