set_option maxHeartbeats 2000000 in
set_option maxRecDepth 20000 in
theorem m_X7_load_nx {σ : ce_S} {g : ce_D} (a : Nat) (b : Nat → Nat) (S : ks_S) (hX : ce_LX σ a b) (hr : ce_rX g a b S) (ok : ks_ok S) (p : Nat) (hp9 : p ≤ 1000) (hp : (kx_read (sT S) (sl S)).1 = some p) : ce_CT (ce_rx 3) mX7_load [.ref (a)] σ g (fun _ _ _ => False) (kx_XR 3 σ g a b S) := by
  refine ce_enter (by decide) rfl (Nat.le_of_ble_eq_true rfl) (L := [some (.ref (a)), none]) rfl ?_
  refine ce_aload_n dX7_load_0 rfl ?_
  refine ce_getR dX7_load_1 fRX7_19 hX.1 hX.2.1.2.1 ?_
  refine ce_cVr dX7_load_4 hX6_read kRX7_68 (m_X6_read a b hX (sT S) (sl S) hr.2.2.2.1 hr.2.2.2.2.1 hr.2.2.2.2.2.1 ok.2.2.2 hr.2.2.2.2.2.2) rfl rfl hX.2.2.2.2.2.1.1 rfl (by decide) (Nat.le_of_ble_eq_true rfl) (fun rcg1 cg1 hcg1 => ?_)
  obtain ⟨ecg1, ucg1, fcg1⟩ := hcg1
  rw [hp] at ecg1
  have ecg1 : rcg1 = nI p := ecg1
  subst ecg1
  have x9 := rX_read hr hX.2.2.2.1.2.2.2 fcg1
  refine ce_ldc dX7_load_7 kRX7_71 ?_
  refine ce_icmp_neI (p := ((p : Nat) : Int)) (q := (-99999)) (tgt := 16) dX7_load_9 (by decide) (nI_toInt (by omega)) (by decide) (fun c_9 => ?_) (fun c_9 => ?_)
  · refine ce_iconst (v := nI (3)) dX7_load_16 (by decide) ?_
    exact ce_callSX dX7_load_17 hX7_check kRX7_56 (m_X7_checkX 3 (by decide) (by decide)) rfl rfl (by decide) (by decide) (by decide) (by decide) (fun v σ1 g1 h => h.elim) (fun E σ1 g1 h => ce_xout rfl (by decide) (by decide) ⟨⟨h.1, h.2.2⟩, h.2.1 ▸ x9.1, h.2.1 ▸ x9.2⟩)
  · omega
def ce_rh : Room := { frames := 10, cells := 1, slots := 6, locals := 300 }
/-- the slow part, but the references of the array of clubs -/
def kl_s (a : Nat) (σ σ1 : ce_S) : Prop := σ.1 ≤ σ1.1 ∧ ce_kd σ1 = ce_kd σ ∧ ce_ln σ1 = ce_ln σ ∧ ∀ x, x ≠ a + 64 → ce_gr σ1 x = ce_gr σ x
/-- the class answers V and holds S2 then -/
def kl_q (σ : ce_S) (g : ce_D) (a : Nat) (S2 : ks_S) (V : Int32) : Option Value → ce_S → ce_D → Prop := fun v σ1 g1 => v = some (.int V) ∧ kl_s a σ σ1 ∧ (∃ b1, ce_LX σ1 a b1 ∧ ce_rX g1 a b1 S2) ∧ ce_fr a (a + 411) g g1
/-- .. and behind a helper: R, and V in the array w where R is 0 -/
def kl_h (σ : ce_S) (g : ce_D) (a w : Nat) (S2 : ks_S) (R : Nat) (V : Int32) : Option Value → ce_S → ce_D → Prop := fun v σ1 g1 => v = some (.int (nI R)) ∧ kl_s a σ σ1 ∧ (R = 0 → ce_gl σ1 w 0 = V.toInt64) ∧ (∃ b1, ce_LX σ1 a b1 ∧ ce_rX g1 a b1 S2) ∧ ce_fr a (a + 411) g g1
theorem LX_top {σ : ce_S} {a n : Nat} {b : Nat → Nat} (h : ce_LX σ a b) : ce_LX (n, σ.2) a b := h
theorem LX_upL {σ : ce_S} {a w k : Nat} {b : Nat → Nat} {x : Int64} (h : ce_LX σ a b) : ce_LX (ce_upL σ w k x) a b := h
theorem ce_CTx {ρ : Room} {Y : ce_Y} {av : List Value} {σ : ce_S} {g : ce_D} {Q : Option Value → ce_S → ce_D → Prop} {X X' : String → ce_S → ce_D → Prop} (h : ce_CT ρ Y av σ g Q X) (hX : ∀ v σ' g', X v σ' g' → X' v σ' g') : ce_CT ρ Y av σ g Q X' := by
  intro G A
  refine Jvm.Free.MetFree.mono (h G A) (fun _ _ h => h) (fun _ _ _ _ _ h => h) (fun a st o t _ hq => ?_)
  rcases hq with hq | ⟨q, h1, E, ce, Lc, ⟨σ', g', q1, q2⟩, h3⟩
  · exact Or.inl hq
  · exact Or.inr ⟨q, h1, E, ce, Lc, ⟨σ', g', hX _ _ _ q1, q2⟩, h3⟩
section KLA
variable {ρ : Room} {Y : ce_Y} {av : List Value} {σ : ce_S} {g : ce_D} {a : Nat} {b : Nat → Nat} {S S2 : ks_S} {V : Int32}
theorem kl_s.rf : kl_s a σ σ := ⟨Nat.le_refl _, rfl, rfl, fun _ _ => rfl⟩
theorem kl_of_p (hX : ce_LX σ a b) (hr : ce_rX g a b S) (h : ce_CT ρ Y av σ g (ce_pv V σ g) ce_no) : ce_CT ρ Y av σ g (kl_q σ g a S V) ce_no := ce_CTm h (by
  rintro v σ1 g1 ⟨rfl, rfl, rfl⟩
  exact ⟨rfl, kl_s.rf, ⟨b, hX, hr⟩, ce_fr.rf⟩)
theorem kl_of_r (hX : ce_LX σ a b) (h : ce_CT ρ Y av σ g (ce_rv σ (fun z9 g1 => z9 = V ∧ ce_rX g1 a b S2 ∧ ce_fr a (a + 411) g g1)) ce_no) : ce_CT ρ Y av σ g (kl_q σ g a S2 V) ce_no := ce_CTm h (by
  rintro v σ1 g1 ⟨z, rfl, rfl, rfl, h1, h2⟩
  exact ⟨rfl, kl_s.rf, ⟨b, hX, h1⟩, h2⟩)
theorem kl_of_t (h : ce_CT ρ Y av σ g (ce_tv (fun z9 σ1 g1 => z9 = V ∧ ∃ b1, ce_sm (a + 63 + 1) σ σ1 ∧ ce_LX σ1 a b1 ∧ ce_rX g1 a b1 S2 ∧ ce_fr a (a + 411) g g1)) ce_no) : ce_CT ρ Y av σ g (kl_q σ g a S2 V) ce_no := ce_CTm h (by
  rintro v σ1 g1 ⟨z, rfl, rfl, b1, h1, h2, h3, h4⟩
  exact ⟨rfl, ⟨Nat.le_of_eq h1.1.symm, h1.2.1, h1.2.2.1, h1.2.2.2.2⟩, ⟨b1, h2, h3⟩, h4⟩)
theorem kl_of_x {f : Nat} (hr : ce_rX g a b S) (h : ce_CT ρ Y av σ g (fun _ _ _ => False) (kx_X f σ g)) : ce_CT ρ Y av σ g (fun _ _ _ => False) (kx_XR f σ g a b S) := ce_CTx h (by
  rintro E σ1 g1 ⟨h1, rfl, h2⟩
  exact ⟨⟨h1, h2⟩, hr, ce_fr.rf⟩)
end KLA
set_option maxHeartbeats 2000000 in
set_option maxRecDepth 20000 in
theorem h_about_ok {σ : ce_S} {g : ce_D} {a : Nat} {b : Nat → Nat} {S S2 : ks_S} {V : Int32} (w : Nat) (x0 : Int32) (hX : ce_LX σ a b) (hw : ce_kd σ w = 14 ∧ ce_ln σ w = 1) (hC : ce_CT (ce_r 5) mX7_about [.ref a, .int x0] σ g (kl_q σ g a S2 V) ce_no) : ce_CT ce_rh mL_about [.ref a, .int x0, .ref w] σ g (kl_h σ g a w S2 0 V) ce_no := by
  refine ce_enterH (by decide) rfl (Nat.le_of_ble_eq_true rfl) (L := [some (.ref a), some (.int x0), some (.ref w), none]) rfl ?_
  refine ce_aload_n dL_about_0 rfl ?_
  refine ce_iconst (v := nI 0) dL_about_1 (by decide) ?_
  refine ce_aload_n dL_about_2 rfl ?_
  refine ce_iload_n dL_about_3 rfl ?_
  refine ce_callVX dL_about_4 hX7_about kRL_21 hC rfl rfl hX.1 rfl (by decide) (Nat.le_of_ble_eq_true rfl) (by decide) (by decide) (fun v σ1 g1 h => ?_) (fun E σ1 g1 h => ?_)
  · obtain ⟨rfl, k1, k2, k3⟩ := h
    refine ce_i2l (v := V.toInt64) dL_about_7 rfl ?_
    refine ce_last (n := 0) (len := 1) dL_about_8 (by rw [k1.2.1]; exact hw.1) rfl (by rw [k1.2.2.1]; exact hw.2) (by decide) (by decide) ?_
    have h9 : kl_h σ g a w S2 0 V (some (.int (nI 0))) (ce_upL σ1 w 0 V.toInt64) g1 := ⟨rfl, ⟨k1.1, k1.2.1, k1.2.2.1, k1.2.2.2⟩, fun _ => by rw [ce_upL_eq]; exact if_pos rfl, k2, k3⟩
    refine ce_goto (tgt := 15) dL_about_9 (by decide) ?_
    refine ce_iconst (v := nI 0) dL_about_15 (by decide) ?_
    exact ce_iret dL_about_16 rfl rfl (by decide) (by decide) h9
  · exact h.elim
set_option maxHeartbeats 2000000 in
set_option maxRecDepth 20000 in
theorem h_about_n2 {σ : ce_S} {g : ce_D} {a : Nat} {b : Nat → Nat} {S S2 : ks_S} {V : Int32} (w : Nat) (x0 : Int32) (hX : ce_LX σ a b) (hC : ce_CT (ce_rx 2) mX7_about [.ref a, .int x0] σ g (fun _ _ _ => False) (kx_XR 2 σ g a b S)) : ce_CT ce_rh mL_about [.ref a, .int x0, .ref w] σ g (kl_h σ g a w S 1 V) ce_no := by
  refine ce_enterH (by decide) rfl (Nat.le_of_ble_eq_true rfl) (L := [some (.ref a), some (.int x0), some (.ref w), none]) rfl ?_
  refine ce_aload_n dL_about_0 rfl ?_
  refine ce_iconst (v := nI 0) dL_about_1 (by decide) ?_
  refine ce_aload_n dL_about_2 rfl ?_
  refine ce_iload_n dL_about_3 rfl ?_
  refine ce_callVX dL_about_4 hX7_about kRL_21 hC rfl rfl hX.1 rfl (by decide) (Nat.le_of_ble_eq_true rfl) (by decide) (by decide) (fun v σ1 g1 h => ?_) (fun E σ1 g1 h => ?_)
  · exact h.elim
  · obtain ⟨⟨eE, n, hn, rfl⟩, k1, k2⟩ := h
    have eE : E = "java/lang/IllegalArgumentException" := eE
    subst eE
    refine ce_xcatch (E := "java/lang/IllegalArgumentException") [] 0 9 [] rfl (by decide) (fun _ hz => by cases hz) ⟨by decide, by decide⟩ (by decide) kRL_13 wc_IllegalArgumentException (fun q => ?_)
    have h9 : kl_h σ g a w S 1 V (some (.int (nI 1))) (n, σ.2) g1 := ⟨rfl, ⟨hn, rfl, rfl, fun _ _ => rfl⟩, fun q => absurd q (by decide), ⟨b, hX, k1⟩, k2⟩
    refine ce_astore_n dL_about_12 (Nat.le_of_ble_eq_true rfl) rfl ?_
    refine ce_iconst (v := nI 1) dL_about_13 (by decide) ?_
    exact ce_iret dL_about_14 rfl rfl (by decide) (by decide) h9
set_option maxHeartbeats 2000000 in
set_option maxRecDepth 20000 in
theorem h_addBin_ok {σ : ce_S} {g : ce_D} {a : Nat} {b : Nat → Nat} {S S2 : ks_S} {V : Int32} (w : Nat) (x0 : Int32) (hX : ce_LX σ a b) (hw : ce_kd σ w = 14 ∧ ce_ln σ w = 1) (hC : ce_CT (ce_r 5) mX7_addBin [.ref a, .int x0] σ g (kl_q σ g a S2 V) ce_no) : ce_CT ce_rh mL_addBin [.ref a, .int x0, .ref w] σ g (kl_h σ g a w S2 0 V) ce_no := by
  refine ce_enterH (by decide) rfl (Nat.le_of_ble_eq_true rfl) (L := [some (.ref a), some (.int x0), some (.ref w), none]) rfl ?_
  refine ce_aload_n dL_addBin_0 rfl ?_
  refine ce_iconst (v := nI 0) dL_addBin_1 (by decide) ?_
  refine ce_aload_n dL_addBin_2 rfl ?_
  refine ce_iload_n dL_addBin_3 rfl ?_
  refine ce_callVX dL_addBin_4 hX7_addBin kRL_46 hC rfl rfl hX.1 rfl (by decide) (Nat.le_of_ble_eq_true rfl) (by decide) (by decide) (fun v σ1 g1 h => ?_) (fun E σ1 g1 h => ?_)
  · obtain ⟨rfl, k1, k2, k3⟩ := h
    refine ce_i2l (v := V.toInt64) dL_addBin_7 rfl ?_
    refine ce_last (n := 0) (len := 1) dL_addBin_8 (by rw [k1.2.1]; exact hw.1) rfl (by rw [k1.2.2.1]; exact hw.2) (by decide) (by decide) ?_
    have h9 : kl_h σ g a w S2 0 V (some (.int (nI 0))) (ce_upL σ1 w 0 V.toInt64) g1 := ⟨rfl, ⟨k1.1, k1.2.1, k1.2.2.1, k1.2.2.2⟩, fun _ => by rw [ce_upL_eq]; exact if_pos rfl, k2, k3⟩
    refine ce_goto (tgt := 18) dL_addBin_9 (by decide) ?_
    refine ce_iconst (v := nI 0) dL_addBin_18 (by decide) ?_
    exact ce_iret dL_addBin_19 rfl rfl (by decide) (by decide) h9
  · exact h.elim
set_option maxHeartbeats 2000000 in
set_option maxRecDepth 20000 in
theorem h_addBin_n2 {σ : ce_S} {g : ce_D} {a : Nat} {b : Nat → Nat} {S S2 : ks_S} {V : Int32} (w : Nat) (x0 : Int32) (hX : ce_LX σ a b) (hC : ce_CT (ce_rx 2) mX7_addBin [.ref a, .int x0] σ g (fun _ _ _ => False) (kx_XR 2 σ g a b S)) : ce_CT ce_rh mL_addBin [.ref a, .int x0, .ref w] σ g (kl_h σ g a w S 1 V) ce_no := by
  refine ce_enterH (by decide) rfl (Nat.le_of_ble_eq_true rfl) (L := [some (.ref a), some (.int x0), some (.ref w), none]) rfl ?_
  refine ce_aload_n dL_addBin_0 rfl ?_
  refine ce_iconst (v := nI 0) dL_addBin_1 (by decide) ?_
  refine ce_aload_n dL_addBin_2 rfl ?_
  refine ce_iload_n dL_addBin_3 rfl ?_
  refine ce_callVX dL_addBin_4 hX7_addBin kRL_46 hC rfl rfl hX.1 rfl (by decide) (Nat.le_of_ble_eq_true rfl) (by decide) (by decide) (fun v σ1 g1 h => ?_) (fun E σ1 g1 h => ?_)
  · exact h.elim
  · obtain ⟨⟨eE, n, hn, rfl⟩, k1, k2⟩ := h
    have eE : E = "java/lang/IllegalArgumentException" := eE
    subst eE
    refine ce_xcatch (E := "java/lang/IllegalArgumentException") [] 0 9 [(0, 9, 15, 15)] rfl (by decide) (fun _ hz => by cases hz) ⟨by decide, by decide⟩ (by decide) kRL_13 wc_IllegalArgumentException (fun q => ?_)
    have h9 : kl_h σ g a w S 1 V (some (.int (nI 1))) (n, σ.2) g1 := ⟨rfl, ⟨hn, rfl, rfl, fun _ _ => rfl⟩, fun q => absurd q (by decide), ⟨b, hX, k1⟩, k2⟩
    refine ce_astore_n dL_addBin_12 (Nat.le_of_ble_eq_true rfl) rfl ?_
    refine ce_iconst (v := nI 1) dL_addBin_13 (by decide) ?_
    exact ce_iret dL_addBin_14 rfl rfl (by decide) (by decide) h9
set_option maxHeartbeats 2000000 in
set_option maxRecDepth 20000 in
theorem h_addBin_n3 {σ : ce_S} {g : ce_D} {a : Nat} {b : Nat → Nat} {S S2 : ks_S} {V : Int32} (w : Nat) (x0 : Int32) (hX : ce_LX σ a b) (hC : ce_CT (ce_rx 2) mX7_addBin [.ref a, .int x0] σ g (fun _ _ _ => False) (kx_XR 3 σ g a b S)) : ce_CT ce_rh mL_addBin [.ref a, .int x0, .ref w] σ g (kl_h σ g a w S 2 V) ce_no := by
  refine ce_enterH (by decide) rfl (Nat.le_of_ble_eq_true rfl) (L := [some (.ref a), some (.int x0), some (.ref w), none]) rfl ?_
  refine ce_aload_n dL_addBin_0 rfl ?_
  refine ce_iconst (v := nI 0) dL_addBin_1 (by decide) ?_
  refine ce_aload_n dL_addBin_2 rfl ?_
  refine ce_iload_n dL_addBin_3 rfl ?_
  refine ce_callVX dL_addBin_4 hX7_addBin kRL_46 hC rfl rfl hX.1 rfl (by decide) (Nat.le_of_ble_eq_true rfl) (by decide) (by decide) (fun v σ1 g1 h => ?_) (fun E σ1 g1 h => ?_)
  · exact h.elim
  · obtain ⟨⟨eE, n, hn, rfl⟩, k1, k2⟩ := h
    have eE : E = "java/lang/IllegalStateException" := eE
    subst eE
    refine ce_xcatch (E := "java/lang/IllegalStateException") [(0, 9, 12, 13)] 0 9 [] rfl (by decide) (fun z hz => by
        have hz : z = (0, 9, 12, 13) := by simpa using hz
        rcases hz with rfl
        · exact ⟨by decide, "java/lang/IllegalArgumentException", by decide, by decide, kRL_13⟩) ⟨by decide, by decide⟩ (by decide) kRL_15 wc_IllegalStateException (fun q => ?_)
    have h9 : kl_h σ g a w S 2 V (some (.int (nI 2))) (n, σ.2) g1 := ⟨rfl, ⟨hn, rfl, rfl, fun _ _ => rfl⟩, fun q => absurd q (by decide), ⟨b, hX, k1⟩, k2⟩
    refine ce_astore_n dL_addBin_15 (Nat.le_of_ble_eq_true rfl) rfl ?_
    refine ce_iconst (v := nI 2) dL_addBin_16 (by decide) ?_
    exact ce_iret dL_addBin_17 rfl rfl (by decide) (by decide) h9
set_option maxHeartbeats 2000000 in
set_option maxRecDepth 20000 in
theorem h_addMember_ok {σ : ce_S} {g : ce_D} {a : Nat} {b : Nat → Nat} {S S2 : ks_S} {V : Int32} (w : Nat) (x0 : Int32) (hX : ce_LX σ a b) (hw : ce_kd σ w = 14 ∧ ce_ln σ w = 1) (hC : ce_CT (ce_r 5) mX7_addMember [.ref a, .int x0] σ g (kl_q σ g a S2 V) ce_no) : ce_CT ce_rh mL_addMember [.ref a, .int x0, .ref w] σ g (kl_h σ g a w S2 0 V) ce_no := by
  refine ce_enterH (by decide) rfl (Nat.le_of_ble_eq_true rfl) (L := [some (.ref a), some (.int x0), some (.ref w), none]) rfl ?_
  refine ce_aload_n dL_addMember_0 rfl ?_
  refine ce_iconst (v := nI 0) dL_addMember_1 (by decide) ?_
  refine ce_aload_n dL_addMember_2 rfl ?_
  refine ce_iload_n dL_addMember_3 rfl ?_
  refine ce_callVX dL_addMember_4 hX7_addMember kRL_40 hC rfl rfl hX.1 rfl (by decide) (Nat.le_of_ble_eq_true rfl) (by decide) (by decide) (fun v σ1 g1 h => ?_) (fun E σ1 g1 h => ?_)
  · obtain ⟨rfl, k1, k2, k3⟩ := h
    refine ce_i2l (v := V.toInt64) dL_addMember_7 rfl ?_
    refine ce_last (n := 0) (len := 1) dL_addMember_8 (by rw [k1.2.1]; exact hw.1) rfl (by rw [k1.2.2.1]; exact hw.2) (by decide) (by decide) ?_
    have h9 : kl_h σ g a w S2 0 V (some (.int (nI 0))) (ce_upL σ1 w 0 V.toInt64) g1 := ⟨rfl, ⟨k1.1, k1.2.1, k1.2.2.1, k1.2.2.2⟩, fun _ => by rw [ce_upL_eq]; exact if_pos rfl, k2, k3⟩
    refine ce_goto (tgt := 18) dL_addMember_9 (by decide) ?_
    refine ce_iconst (v := nI 0) dL_addMember_18 (by decide) ?_
    exact ce_iret dL_addMember_19 rfl rfl (by decide) (by decide) h9
  · exact h.elim
set_option maxHeartbeats 2000000 in
set_option maxRecDepth 20000 in
theorem h_addMember_n2 {σ : ce_S} {g : ce_D} {a : Nat} {b : Nat → Nat} {S S2 : ks_S} {V : Int32} (w : Nat) (x0 : Int32) (hX : ce_LX σ a b) (hC : ce_CT (ce_rx 2) mX7_addMember [.ref a, .int x0] σ g (fun _ _ _ => False) (kx_XR 2 σ g a b S)) : ce_CT ce_rh mL_addMember [.ref a, .int x0, .ref w] σ g (kl_h σ g a w S 1 V) ce_no := by
  refine ce_enterH (by decide) rfl (Nat.le_of_ble_eq_true rfl) (L := [some (.ref a), some (.int x0), some (.ref w), none]) rfl ?_
  refine ce_aload_n dL_addMember_0 rfl ?_
  refine ce_iconst (v := nI 0) dL_addMember_1 (by decide) ?_
  refine ce_aload_n dL_addMember_2 rfl ?_
  refine ce_iload_n dL_addMember_3 rfl ?_
  refine ce_callVX dL_addMember_4 hX7_addMember kRL_40 hC rfl rfl hX.1 rfl (by decide) (Nat.le_of_ble_eq_true rfl) (by decide) (by decide) (fun v σ1 g1 h => ?_) (fun E σ1 g1 h => ?_)
  · exact h.elim
  · obtain ⟨⟨eE, n, hn, rfl⟩, k1, k2⟩ := h
    have eE : E = "java/lang/IllegalArgumentException" := eE
    subst eE
    refine ce_xcatch (E := "java/lang/IllegalArgumentException") [] 0 9 [(0, 9, 15, 15)] rfl (by decide) (fun _ hz => by cases hz) ⟨by decide, by decide⟩ (by decide) kRL_13 wc_IllegalArgumentException (fun q => ?_)
    have h9 : kl_h σ g a w S 1 V (some (.int (nI 1))) (n, σ.2) g1 := ⟨rfl, ⟨hn, rfl, rfl, fun _ _ => rfl⟩, fun q => absurd q (by decide), ⟨b, hX, k1⟩, k2⟩
    refine ce_astore_n dL_addMember_12 (Nat.le_of_ble_eq_true rfl) rfl ?_
    refine ce_iconst (v := nI 1) dL_addMember_13 (by decide) ?_
    exact ce_iret dL_addMember_14 rfl rfl (by decide) (by decide) h9
set_option maxHeartbeats 2000000 in
set_option maxRecDepth 20000 in
theorem h_addMember_n3 {σ : ce_S} {g : ce_D} {a : Nat} {b : Nat → Nat} {S S2 : ks_S} {V : Int32} (w : Nat) (x0 : Int32) (hX : ce_LX σ a b) (hC : ce_CT (ce_rx 2) mX7_addMember [.ref a, .int x0] σ g (fun _ _ _ => False) (kx_XR 3 σ g a b S)) : ce_CT ce_rh mL_addMember [.ref a, .int x0, .ref w] σ g (kl_h σ g a w S 2 V) ce_no := by
  refine ce_enterH (by decide) rfl (Nat.le_of_ble_eq_true rfl) (L := [some (.ref a), some (.int x0), some (.ref w), none]) rfl ?_
  refine ce_aload_n dL_addMember_0 rfl ?_
  refine ce_iconst (v := nI 0) dL_addMember_1 (by decide) ?_
  refine ce_aload_n dL_addMember_2 rfl ?_
  refine ce_iload_n dL_addMember_3 rfl ?_
  refine ce_callVX dL_addMember_4 hX7_addMember kRL_40 hC rfl rfl hX.1 rfl (by decide) (Nat.le_of_ble_eq_true rfl) (by decide) (by decide) (fun v σ1 g1 h => ?_) (fun E σ1 g1 h => ?_)
  · exact h.elim
  · obtain ⟨⟨eE, n, hn, rfl⟩, k1, k2⟩ := h
    have eE : E = "java/lang/IllegalStateException" := eE
    subst eE
    refine ce_xcatch (E := "java/lang/IllegalStateException") [(0, 9, 12, 13)] 0 9 [] rfl (by decide) (fun z hz => by
        have hz : z = (0, 9, 12, 13) := by simpa using hz
        rcases hz with rfl
        · exact ⟨by decide, "java/lang/IllegalArgumentException", by decide, by decide, kRL_13⟩) ⟨by decide, by decide⟩ (by decide) kRL_15 wc_IllegalStateException (fun q => ?_)
    have h9 : kl_h σ g a w S 2 V (some (.int (nI 2))) (n, σ.2) g1 := ⟨rfl, ⟨hn, rfl, rfl, fun _ _ => rfl⟩, fun q => absurd q (by decide), ⟨b, hX, k1⟩, k2⟩
    refine ce_astore_n dL_addMember_15 (Nat.le_of_ble_eq_true rfl) rfl ?_
    refine ce_iconst (v := nI 2) dL_addMember_16 (by decide) ?_
    exact ce_iret dL_addMember_17 rfl rfl (by decide) (by decide) h9
set_option maxHeartbeats 2000000 in
set_option maxRecDepth 20000 in
theorem h_addWine_ok {σ : ce_S} {g : ce_D} {a : Nat} {b : Nat → Nat} {S S2 : ks_S} {V : Int32} (w : Nat) (x0 : Int32) (x1 : Int32) (hX : ce_LX σ a b) (hw : ce_kd σ w = 14 ∧ ce_ln σ w = 1) (hC : ce_CT (ce_r 5) mX7_addWine [.ref a, .int x0, .int x1] σ g (kl_q σ g a S2 V) ce_no) : ce_CT ce_rh mL_addWine [.ref a, .int x0, .int x1, .ref w] σ g (kl_h σ g a w S2 0 V) ce_no := by
  refine ce_enterH (by decide) rfl (Nat.le_of_ble_eq_true rfl) (L := [some (.ref a), some (.int x0), some (.int x1), some (.ref w), none]) rfl ?_
  refine ce_aload_n dL_addWine_0 rfl ?_
  refine ce_iconst (v := nI 0) dL_addWine_1 (by decide) ?_
  refine ce_aload_n dL_addWine_2 rfl ?_
  refine ce_iload_n dL_addWine_3 rfl ?_
  refine ce_iload_n dL_addWine_4 rfl ?_
  refine ce_callVX dL_addWine_5 hX7_addWine kRL_43 hC rfl rfl hX.1 rfl (by decide) (Nat.le_of_ble_eq_true rfl) (by decide) (by decide) (fun v σ1 g1 h => ?_) (fun E σ1 g1 h => ?_)
  · obtain ⟨rfl, k1, k2, k3⟩ := h
    refine ce_i2l (v := V.toInt64) dL_addWine_8 rfl ?_
    refine ce_last (n := 0) (len := 1) dL_addWine_9 (by rw [k1.2.1]; exact hw.1) rfl (by rw [k1.2.2.1]; exact hw.2) (by decide) (by decide) ?_
    have h9 : kl_h σ g a w S2 0 V (some (.int (nI 0))) (ce_upL σ1 w 0 V.toInt64) g1 := ⟨rfl, ⟨k1.1, k1.2.1, k1.2.2.1, k1.2.2.2⟩, fun _ => by rw [ce_upL_eq]; exact if_pos rfl, k2, k3⟩
    refine ce_goto (tgt := 21) dL_addWine_10 (by decide) ?_
    refine ce_iconst (v := nI 0) dL_addWine_21 (by decide) ?_
    exact ce_iret dL_addWine_22 rfl rfl (by decide) (by decide) h9
  · exact h.elim
set_option maxHeartbeats 2000000 in
set_option maxRecDepth 20000 in
theorem h_addWine_n2 {σ : ce_S} {g : ce_D} {a : Nat} {b : Nat → Nat} {S S2 : ks_S} {V : Int32} (w : Nat) (x0 : Int32) (x1 : Int32) (hX : ce_LX σ a b) (hC : ce_CT (ce_rx 2) mX7_addWine [.ref a, .int x0, .int x1] σ g (fun _ _ _ => False) (kx_XR 2 σ g a b S)) : ce_CT ce_rh mL_addWine [.ref a, .int x0, .int x1, .ref w] σ g (kl_h σ g a w S 1 V) ce_no := by
  refine ce_enterH (by decide) rfl (Nat.le_of_ble_eq_true rfl) (L := [some (.ref a), some (.int x0), some (.int x1), some (.ref w), none]) rfl ?_
  refine ce_aload_n dL_addWine_0 rfl ?_
  refine ce_iconst (v := nI 0) dL_addWine_1 (by decide) ?_
  refine ce_aload_n dL_addWine_2 rfl ?_
  refine ce_iload_n dL_addWine_3 rfl ?_
  refine ce_iload_n dL_addWine_4 rfl ?_
  refine ce_callVX dL_addWine_5 hX7_addWine kRL_43 hC rfl rfl hX.1 rfl (by decide) (Nat.le_of_ble_eq_true rfl) (by decide) (by decide) (fun v σ1 g1 h => ?_) (fun E σ1 g1 h => ?_)
  · exact h.elim
  · obtain ⟨⟨eE, n, hn, rfl⟩, k1, k2⟩ := h
    have eE : E = "java/lang/IllegalArgumentException" := eE
    subst eE
    refine ce_xcatch (E := "java/lang/IllegalArgumentException") [] 0 10 [(0, 10, 17, 15)] rfl (by decide) (fun _ hz => by cases hz) ⟨by decide, by decide⟩ (by decide) kRL_13 wc_IllegalArgumentException (fun q => ?_)
    have h9 : kl_h σ g a w S 1 V (some (.int (nI 1))) (n, σ.2) g1 := ⟨rfl, ⟨hn, rfl, rfl, fun _ _ => rfl⟩, fun q => absurd q (by decide), ⟨b, hX, k1⟩, k2⟩
    refine ce_astore dL_addWine_13 (Nat.le_of_ble_eq_true rfl) rfl ?_
    refine ce_iconst (v := nI 1) dL_addWine_15 (by decide) ?_
    exact ce_iret dL_addWine_16 rfl rfl (by decide) (by decide) h9
set_option maxHeartbeats 2000000 in
set_option maxRecDepth 20000 in
theorem h_addWine_n3 {σ : ce_S} {g : ce_D} {a : Nat} {b : Nat → Nat} {S S2 : ks_S} {V : Int32} (w : Nat) (x0 : Int32) (x1 : Int32) (hX : ce_LX σ a b) (hC : ce_CT (ce_rx 2) mX7_addWine [.ref a, .int x0, .int x1] σ g (fun _ _ _ => False) (kx_XR 3 σ g a b S)) : ce_CT ce_rh mL_addWine [.ref a, .int x0, .int x1, .ref w] σ g (kl_h σ g a w S 2 V) ce_no := by
  refine ce_enterH (by decide) rfl (Nat.le_of_ble_eq_true rfl) (L := [some (.ref a), some (.int x0), some (.int x1), some (.ref w), none]) rfl ?_
  refine ce_aload_n dL_addWine_0 rfl ?_
  refine ce_iconst (v := nI 0) dL_addWine_1 (by decide) ?_
  refine ce_aload_n dL_addWine_2 rfl ?_
  refine ce_iload_n dL_addWine_3 rfl ?_
  refine ce_iload_n dL_addWine_4 rfl ?_
  refine ce_callVX dL_addWine_5 hX7_addWine kRL_43 hC rfl rfl hX.1 rfl (by decide) (Nat.le_of_ble_eq_true rfl) (by decide) (by decide) (fun v σ1 g1 h => ?_) (fun E σ1 g1 h => ?_)
  · exact h.elim
  · obtain ⟨⟨eE, n, hn, rfl⟩, k1, k2⟩ := h
    have eE : E = "java/lang/IllegalStateException" := eE
    subst eE
    refine ce_xcatch (E := "java/lang/IllegalStateException") [(0, 10, 13, 13)] 0 10 [] rfl (by decide) (fun z hz => by
        have hz : z = (0, 10, 13, 13) := by simpa using hz
        rcases hz with rfl
        · exact ⟨by decide, "java/lang/IllegalArgumentException", by decide, by decide, kRL_13⟩) ⟨by decide, by decide⟩ (by decide) kRL_15 wc_IllegalStateException (fun q => ?_)
    have h9 : kl_h σ g a w S 2 V (some (.int (nI 2))) (n, σ.2) g1 := ⟨rfl, ⟨hn, rfl, rfl, fun _ _ => rfl⟩, fun q => absurd q (by decide), ⟨b, hX, k1⟩, k2⟩
    refine ce_astore dL_addWine_17 (Nat.le_of_ble_eq_true rfl) rfl ?_
    refine ce_iconst (v := nI 2) dL_addWine_19 (by decide) ?_
    exact ce_iret dL_addWine_20 rfl rfl (by decide) (by decide) h9
set_option maxHeartbeats 2000000 in
set_option maxRecDepth 20000 in
theorem h_allocate_ok {σ : ce_S} {g : ce_D} {a : Nat} {b : Nat → Nat} {S S2 : ks_S} {V : Int32} (w : Nat) (x0 : Int32) (hX : ce_LX σ a b) (hw : ce_kd σ w = 14 ∧ ce_ln σ w = 1) (hC : ce_CT (ce_r 5) mX7_allocate [.ref a, .int x0] σ g (kl_q σ g a S2 V) ce_no) : ce_CT ce_rh mL_allocate [.ref a, .int x0, .ref w] σ g (kl_h σ g a w S2 0 V) ce_no := by
  refine ce_enterH (by decide) rfl (Nat.le_of_ble_eq_true rfl) (L := [some (.ref a), some (.int x0), some (.ref w), none]) rfl ?_
  refine ce_aload_n dL_allocate_0 rfl ?_
  refine ce_iconst (v := nI 0) dL_allocate_1 (by decide) ?_
  refine ce_aload_n dL_allocate_2 rfl ?_
  refine ce_iload_n dL_allocate_3 rfl ?_
  refine ce_callVX dL_allocate_4 hX7_allocate kRL_52 hC rfl rfl hX.1 rfl (by decide) (Nat.le_of_ble_eq_true rfl) (by decide) (by decide) (fun v σ1 g1 h => ?_) (fun E σ1 g1 h => ?_)
  · obtain ⟨rfl, k1, k2, k3⟩ := h
    refine ce_i2l (v := V.toInt64) dL_allocate_7 rfl ?_
    refine ce_last (n := 0) (len := 1) dL_allocate_8 (by rw [k1.2.1]; exact hw.1) rfl (by rw [k1.2.2.1]; exact hw.2) (by decide) (by decide) ?_
    have h9 : kl_h σ g a w S2 0 V (some (.int (nI 0))) (ce_upL σ1 w 0 V.toInt64) g1 := ⟨rfl, ⟨k1.1, k1.2.1, k1.2.2.1, k1.2.2.2⟩, fun _ => by rw [ce_upL_eq]; exact if_pos rfl, k2, k3⟩
    refine ce_goto (tgt := 18) dL_allocate_9 (by decide) ?_
    refine ce_iconst (v := nI 0) dL_allocate_18 (by decide) ?_
    exact ce_iret dL_allocate_19 rfl rfl (by decide) (by decide) h9
  · exact h.elim
set_option maxHeartbeats 2000000 in
set_option maxRecDepth 20000 in
theorem h_allocate_n1 {σ : ce_S} {g : ce_D} {a : Nat} {b : Nat → Nat} {S S2 : ks_S} {V : Int32} (w : Nat) (x0 : Int32) (hX : ce_LX σ a b) (hC : ce_CT (ce_rx 2) mX7_allocate [.ref a, .int x0] σ g (fun _ _ _ => False) (kx_XR 1 σ g a b S)) : ce_CT ce_rh mL_allocate [.ref a, .int x0, .ref w] σ g (kl_h σ g a w S 1 V) ce_no := by
  refine ce_enterH (by decide) rfl (Nat.le_of_ble_eq_true rfl) (L := [some (.ref a), some (.int x0), some (.ref w), none]) rfl ?_
  refine ce_aload_n dL_allocate_0 rfl ?_
  refine ce_iconst (v := nI 0) dL_allocate_1 (by decide) ?_
  refine ce_aload_n dL_allocate_2 rfl ?_
  refine ce_iload_n dL_allocate_3 rfl ?_
  refine ce_callVX dL_allocate_4 hX7_allocate kRL_52 hC rfl rfl hX.1 rfl (by decide) (Nat.le_of_ble_eq_true rfl) (by decide) (by decide) (fun v σ1 g1 h => ?_) (fun E σ1 g1 h => ?_)
  · exact h.elim
  · obtain ⟨⟨eE, n, hn, rfl⟩, k1, k2⟩ := h
    have eE : E = "java/lang/IndexOutOfBoundsException" := eE
    subst eE
    refine ce_xcatch (E := "java/lang/IndexOutOfBoundsException") [] 0 9 [(0, 9, 15, 15)] rfl (by decide) (fun _ hz => by cases hz) ⟨by decide, by decide⟩ (by decide) kRL_28 wc_IndexOutOfBoundsException (fun q => ?_)
    have h9 : kl_h σ g a w S 1 V (some (.int (nI 1))) (n, σ.2) g1 := ⟨rfl, ⟨hn, rfl, rfl, fun _ _ => rfl⟩, fun q => absurd q (by decide), ⟨b, hX, k1⟩, k2⟩
    refine ce_astore_n dL_allocate_12 (Nat.le_of_ble_eq_true rfl) rfl ?_
    refine ce_iconst (v := nI 1) dL_allocate_13 (by decide) ?_
    exact ce_iret dL_allocate_14 rfl rfl (by decide) (by decide) h9
set_option maxHeartbeats 2000000 in
set_option maxRecDepth 20000 in
theorem h_allocate_n3 {σ : ce_S} {g : ce_D} {a : Nat} {b : Nat → Nat} {S S2 : ks_S} {V : Int32} (w : Nat) (x0 : Int32) (hX : ce_LX σ a b) (hC : ce_CT (ce_rx 2) mX7_allocate [.ref a, .int x0] σ g (fun _ _ _ => False) (kx_XR 3 σ g a b S)) : ce_CT ce_rh mL_allocate [.ref a, .int x0, .ref w] σ g (kl_h σ g a w S 2 V) ce_no := by
  refine ce_enterH (by decide) rfl (Nat.le_of_ble_eq_true rfl) (L := [some (.ref a), some (.int x0), some (.ref w), none]) rfl ?_
  refine ce_aload_n dL_allocate_0 rfl ?_
  refine ce_iconst (v := nI 0) dL_allocate_1 (by decide) ?_
  refine ce_aload_n dL_allocate_2 rfl ?_
  refine ce_iload_n dL_allocate_3 rfl ?_
  refine ce_callVX dL_allocate_4 hX7_allocate kRL_52 hC rfl rfl hX.1 rfl (by decide) (Nat.le_of_ble_eq_true rfl) (by decide) (by decide) (fun v σ1 g1 h => ?_) (fun E σ1 g1 h => ?_)
  · exact h.elim
  · obtain ⟨⟨eE, n, hn, rfl⟩, k1, k2⟩ := h
    have eE : E = "java/lang/IllegalStateException" := eE
    subst eE
    refine ce_xcatch (E := "java/lang/IllegalStateException") [(0, 9, 12, 28)] 0 9 [] rfl (by decide) (fun z hz => by
        have hz : z = (0, 9, 12, 28) := by simpa using hz
        rcases hz with rfl
        · exact ⟨by decide, "java/lang/IndexOutOfBoundsException", by decide, by decide, kRL_28⟩) ⟨by decide, by decide⟩ (by decide) kRL_15 wc_IllegalStateException (fun q => ?_)
    have h9 : kl_h σ g a w S 2 V (some (.int (nI 2))) (n, σ.2) g1 := ⟨rfl, ⟨hn, rfl, rfl, fun _ _ => rfl⟩, fun q => absurd q (by decide), ⟨b, hX, k1⟩, k2⟩
    refine ce_astore_n dL_allocate_15 (Nat.le_of_ble_eq_true rfl) rfl ?_
    refine ce_iconst (v := nI 2) dL_allocate_16 (by decide) ?_
    exact ce_iret dL_allocate_17 rfl rfl (by decide) (by decide) h9
set_option maxHeartbeats 2000000 in
set_option maxRecDepth 20000 in
theorem h_append_ok {σ : ce_S} {g : ce_D} {a : Nat} {b : Nat → Nat} {S S2 : ks_S} {V : Int32} (w : Nat) (x0 : Int32) (hX : ce_LX σ a b) (hw : ce_kd σ w = 14 ∧ ce_ln σ w = 1) (hC : ce_CT (ce_r 5) mX7_append [.ref a, .int x0] σ g (kl_q σ g a S2 V) ce_no) : ce_CT ce_rh mL_append [.ref a, .int x0, .ref w] σ g (kl_h σ g a w S2 0 V) ce_no := by
  refine ce_enterH (by decide) rfl (Nat.le_of_ble_eq_true rfl) (L := [some (.ref a), some (.int x0), some (.ref w), none]) rfl ?_
  refine ce_aload_n dL_append_0 rfl ?_
  refine ce_iconst (v := nI 0) dL_append_1 (by decide) ?_
  refine ce_aload_n dL_append_2 rfl ?_
  refine ce_iload_n dL_append_3 rfl ?_
  refine ce_callVX dL_append_4 hX7_append kRL_7 hC rfl rfl hX.1 rfl (by decide) (Nat.le_of_ble_eq_true rfl) (by decide) (by decide) (fun v σ1 g1 h => ?_) (fun E σ1 g1 h => ?_)
  · obtain ⟨rfl, k1, k2, k3⟩ := h
    refine ce_i2l (v := V.toInt64) dL_append_7 rfl ?_
    refine ce_last (n := 0) (len := 1) dL_append_8 (by rw [k1.2.1]; exact hw.1) rfl (by rw [k1.2.2.1]; exact hw.2) (by decide) (by decide) ?_
    have h9 : kl_h σ g a w S2 0 V (some (.int (nI 0))) (ce_upL σ1 w 0 V.toInt64) g1 := ⟨rfl, ⟨k1.1, k1.2.1, k1.2.2.1, k1.2.2.2⟩, fun _ => by rw [ce_upL_eq]; exact if_pos rfl, k2, k3⟩
    refine ce_goto (tgt := 18) dL_append_9 (by decide) ?_
    refine ce_iconst (v := nI 0) dL_append_18 (by decide) ?_
    exact ce_iret dL_append_19 rfl rfl (by decide) (by decide) h9
  · exact h.elim
set_option maxHeartbeats 2000000 in
set_option maxRecDepth 20000 in
theorem h_append_n2 {σ : ce_S} {g : ce_D} {a : Nat} {b : Nat → Nat} {S S2 : ks_S} {V : Int32} (w : Nat) (x0 : Int32) (hX : ce_LX σ a b) (hC : ce_CT (ce_rx 2) mX7_append [.ref a, .int x0] σ g (fun _ _ _ => False) (kx_XR 2 σ g a b S)) : ce_CT ce_rh mL_append [.ref a, .int x0, .ref w] σ g (kl_h σ g a w S 1 V) ce_no := by
  refine ce_enterH (by decide) rfl (Nat.le_of_ble_eq_true rfl) (L := [some (.ref a), some (.int x0), some (.ref w), none]) rfl ?_
  refine ce_aload_n dL_append_0 rfl ?_
  refine ce_iconst (v := nI 0) dL_append_1 (by decide) ?_
  refine ce_aload_n dL_append_2 rfl ?_
  refine ce_iload_n dL_append_3 rfl ?_
  refine ce_callVX dL_append_4 hX7_append kRL_7 hC rfl rfl hX.1 rfl (by decide) (Nat.le_of_ble_eq_true rfl) (by decide) (by decide) (fun v σ1 g1 h => ?_) (fun E σ1 g1 h => ?_)
  · exact h.elim
  · obtain ⟨⟨eE, n, hn, rfl⟩, k1, k2⟩ := h
    have eE : E = "java/lang/IllegalArgumentException" := eE
    subst eE
    refine ce_xcatch (E := "java/lang/IllegalArgumentException") [] 0 9 [(0, 9, 15, 15)] rfl (by decide) (fun _ hz => by cases hz) ⟨by decide, by decide⟩ (by decide) kRL_13 wc_IllegalArgumentException (fun q => ?_)
    have h9 : kl_h σ g a w S 1 V (some (.int (nI 1))) (n, σ.2) g1 := ⟨rfl, ⟨hn, rfl, rfl, fun _ _ => rfl⟩, fun q => absurd q (by decide), ⟨b, hX, k1⟩, k2⟩
    refine ce_astore_n dL_append_12 (Nat.le_of_ble_eq_true rfl) rfl ?_
    refine ce_iconst (v := nI 1) dL_append_13 (by decide) ?_
    exact ce_iret dL_append_14 rfl rfl (by decide) (by decide) h9
set_option maxHeartbeats 2000000 in
set_option maxRecDepth 20000 in
theorem h_append_n3 {σ : ce_S} {g : ce_D} {a : Nat} {b : Nat → Nat} {S S2 : ks_S} {V : Int32} (w : Nat) (x0 : Int32) (hX : ce_LX σ a b) (hC : ce_CT (ce_rx 2) mX7_append [.ref a, .int x0] σ g (fun _ _ _ => False) (kx_XR 3 σ g a b S)) : ce_CT ce_rh mL_append [.ref a, .int x0, .ref w] σ g (kl_h σ g a w S 2 V) ce_no := by
  refine ce_enterH (by decide) rfl (Nat.le_of_ble_eq_true rfl) (L := [some (.ref a), some (.int x0), some (.ref w), none]) rfl ?_
  refine ce_aload_n dL_append_0 rfl ?_
  refine ce_iconst (v := nI 0) dL_append_1 (by decide) ?_
  refine ce_aload_n dL_append_2 rfl ?_
  refine ce_iload_n dL_append_3 rfl ?_
  refine ce_callVX dL_append_4 hX7_append kRL_7 hC rfl rfl hX.1 rfl (by decide) (Nat.le_of_ble_eq_true rfl) (by decide) (by decide) (fun v σ1 g1 h => ?_) (fun E σ1 g1 h => ?_)
  · exact h.elim
  · obtain ⟨⟨eE, n, hn, rfl⟩, k1, k2⟩ := h
    have eE : E = "java/lang/IllegalStateException" := eE
    subst eE
    refine ce_xcatch (E := "java/lang/IllegalStateException") [(0, 9, 12, 13)] 0 9 [] rfl (by decide) (fun z hz => by
        have hz : z = (0, 9, 12, 13) := by simpa using hz
        rcases hz with rfl
        · exact ⟨by decide, "java/lang/IllegalArgumentException", by decide, by decide, kRL_13⟩) ⟨by decide, by decide⟩ (by decide) kRL_15 wc_IllegalStateException (fun q => ?_)
    have h9 : kl_h σ g a w S 2 V (some (.int (nI 2))) (n, σ.2) g1 := ⟨rfl, ⟨hn, rfl, rfl, fun _ _ => rfl⟩, fun q => absurd q (by decide), ⟨b, hX, k1⟩, k2⟩
    refine ce_astore_n dL_append_15 (Nat.le_of_ble_eq_true rfl) rfl ?_
    refine ce_iconst (v := nI 2) dL_append_16 (by decide) ?_
    exact ce_iret dL_append_17 rfl rfl (by decide) (by decide) h9
set_option maxHeartbeats 2000000 in
set_option maxRecDepth 20000 in
theorem h_bin_ok {σ : ce_S} {g : ce_D} {a : Nat} {b : Nat → Nat} {S S2 : ks_S} {V : Int32} (w : Nat) (x0 : Int32) (x1 : Int32) (hX : ce_LX σ a b) (hw : ce_kd σ w = 14 ∧ ce_ln σ w = 1) (hC : ce_CT (ce_r 5) mX7_bin [.ref a, .int x0, .int x1] σ g (kl_q σ g a S2 V) ce_no) : ce_CT ce_rh mL_bin [.ref a, .int x0, .int x1, .ref w] σ g (kl_h σ g a w S2 0 V) ce_no := by
  refine ce_enterH (by decide) rfl (Nat.le_of_ble_eq_true rfl) (L := [some (.ref a), some (.int x0), some (.int x1), some (.ref w), none]) rfl ?_
  refine ce_aload_n dL_bin_0 rfl ?_
  refine ce_iconst (v := nI 0) dL_bin_1 (by decide) ?_
  refine ce_aload_n dL_bin_2 rfl ?_
  refine ce_iload_n dL_bin_3 rfl ?_
  refine ce_iload_n dL_bin_4 rfl ?_
  refine ce_callVX dL_bin_5 hX7_bin kRL_33 hC rfl rfl hX.1 rfl (by decide) (Nat.le_of_ble_eq_true rfl) (by decide) (by decide) (fun v σ1 g1 h => ?_) (fun E σ1 g1 h => ?_)
  · obtain ⟨rfl, k1, k2, k3⟩ := h
    refine ce_i2l (v := V.toInt64) dL_bin_8 rfl ?_
    refine ce_last (n := 0) (len := 1) dL_bin_9 (by rw [k1.2.1]; exact hw.1) rfl (by rw [k1.2.2.1]; exact hw.2) (by decide) (by decide) ?_
    have h9 : kl_h σ g a w S2 0 V (some (.int (nI 0))) (ce_upL σ1 w 0 V.toInt64) g1 := ⟨rfl, ⟨k1.1, k1.2.1, k1.2.2.1, k1.2.2.2⟩, fun _ => by rw [ce_upL_eq]; exact if_pos rfl, k2, k3⟩
    refine ce_goto (tgt := 21) dL_bin_10 (by decide) ?_
    refine ce_iconst (v := nI 0) dL_bin_21 (by decide) ?_
    exact ce_iret dL_bin_22 rfl rfl (by decide) (by decide) h9
  · exact h.elim
set_option maxHeartbeats 2000000 in
set_option maxRecDepth 20000 in
theorem h_bin_n1 {σ : ce_S} {g : ce_D} {a : Nat} {b : Nat → Nat} {S S2 : ks_S} {V : Int32} (w : Nat) (x0 : Int32) (x1 : Int32) (hX : ce_LX σ a b) (hC : ce_CT (ce_rx 2) mX7_bin [.ref a, .int x0, .int x1] σ g (fun _ _ _ => False) (kx_XR 1 σ g a b S)) : ce_CT ce_rh mL_bin [.ref a, .int x0, .int x1, .ref w] σ g (kl_h σ g a w S 1 V) ce_no := by
  refine ce_enterH (by decide) rfl (Nat.le_of_ble_eq_true rfl) (L := [some (.ref a), some (.int x0), some (.int x1), some (.ref w), none]) rfl ?_
  refine ce_aload_n dL_bin_0 rfl ?_
  refine ce_iconst (v := nI 0) dL_bin_1 (by decide) ?_
  refine ce_aload_n dL_bin_2 rfl ?_
  refine ce_iload_n dL_bin_3 rfl ?_
  refine ce_iload_n dL_bin_4 rfl ?_
  refine ce_callVX dL_bin_5 hX7_bin kRL_33 hC rfl rfl hX.1 rfl (by decide) (Nat.le_of_ble_eq_true rfl) (by decide) (by decide) (fun v σ1 g1 h => ?_) (fun E σ1 g1 h => ?_)
  · exact h.elim
  · obtain ⟨⟨eE, n, hn, rfl⟩, k1, k2⟩ := h
    have eE : E = "java/lang/IndexOutOfBoundsException" := eE
    subst eE
    refine ce_xcatch (E := "java/lang/IndexOutOfBoundsException") [] 0 10 [(0, 10, 17, 13)] rfl (by decide) (fun _ hz => by cases hz) ⟨by decide, by decide⟩ (by decide) kRL_28 wc_IndexOutOfBoundsException (fun q => ?_)
    have h9 : kl_h σ g a w S 1 V (some (.int (nI 1))) (n, σ.2) g1 := ⟨rfl, ⟨hn, rfl, rfl, fun _ _ => rfl⟩, fun q => absurd q (by decide), ⟨b, hX, k1⟩, k2⟩
    refine ce_astore dL_bin_13 (Nat.le_of_ble_eq_true rfl) rfl ?_
    refine ce_iconst (v := nI 1) dL_bin_15 (by decide) ?_
    exact ce_iret dL_bin_16 rfl rfl (by decide) (by decide) h9
set_option maxHeartbeats 2000000 in
set_option maxRecDepth 20000 in
theorem h_bin_n2 {σ : ce_S} {g : ce_D} {a : Nat} {b : Nat → Nat} {S S2 : ks_S} {V : Int32} (w : Nat) (x0 : Int32) (x1 : Int32) (hX : ce_LX σ a b) (hC : ce_CT (ce_rx 2) mX7_bin [.ref a, .int x0, .int x1] σ g (fun _ _ _ => False) (kx_XR 2 σ g a b S)) : ce_CT ce_rh mL_bin [.ref a, .int x0, .int x1, .ref w] σ g (kl_h σ g a w S 2 V) ce_no := by
  refine ce_enterH (by decide) rfl (Nat.le_of_ble_eq_true rfl) (L := [some (.ref a), some (.int x0), some (.int x1), some (.ref w), none]) rfl ?_
  refine ce_aload_n dL_bin_0 rfl ?_
  refine ce_iconst (v := nI 0) dL_bin_1 (by decide) ?_
  refine ce_aload_n dL_bin_2 rfl ?_
  refine ce_iload_n dL_bin_3 rfl ?_
  refine ce_iload_n dL_bin_4 rfl ?_
  refine ce_callVX dL_bin_5 hX7_bin kRL_33 hC rfl rfl hX.1 rfl (by decide) (Nat.le_of_ble_eq_true rfl) (by decide) (by decide) (fun v σ1 g1 h => ?_) (fun E σ1 g1 h => ?_)
  · exact h.elim
  · obtain ⟨⟨eE, n, hn, rfl⟩, k1, k2⟩ := h
    have eE : E = "java/lang/IllegalArgumentException" := eE
    subst eE
    refine ce_xcatch (E := "java/lang/IllegalArgumentException") [(0, 10, 13, 28)] 0 10 [] rfl (by decide) (fun z hz => by
        have hz : z = (0, 10, 13, 28) := by simpa using hz
        rcases hz with rfl
        · exact ⟨by decide, "java/lang/IndexOutOfBoundsException", by decide, by decide, kRL_28⟩) ⟨by decide, by decide⟩ (by decide) kRL_13 wc_IllegalArgumentException (fun q => ?_)
    have h9 : kl_h σ g a w S 2 V (some (.int (nI 2))) (n, σ.2) g1 := ⟨rfl, ⟨hn, rfl, rfl, fun _ _ => rfl⟩, fun q => absurd q (by decide), ⟨b, hX, k1⟩, k2⟩
    refine ce_astore dL_bin_17 (Nat.le_of_ble_eq_true rfl) rfl ?_
    refine ce_iconst (v := nI 2) dL_bin_19 (by decide) ?_
    exact ce_iret dL_bin_20 rfl rfl (by decide) (by decide) h9
set_option maxHeartbeats 2000000 in
set_option maxRecDepth 20000 in
theorem h_cork_ok {σ : ce_S} {g : ce_D} {a : Nat} {b : Nat → Nat} {S S2 : ks_S} {V : Int32} (w : Nat) (x0 : Int32) (x1 : Int32) (hX : ce_LX σ a b) (hw : ce_kd σ w = 14 ∧ ce_ln σ w = 1) (hC : ce_CT (ce_r 5) mX7_cork [.ref a, .int x0, .int x1] σ g (kl_q σ g a S2 V) ce_no) : ce_CT ce_rh mL_cork [.ref a, .int x0, .int x1, .ref w] σ g (kl_h σ g a w S2 0 V) ce_no := by
  refine ce_enterH (by decide) rfl (Nat.le_of_ble_eq_true rfl) (L := [some (.ref a), some (.int x0), some (.int x1), some (.ref w), none]) rfl ?_
  refine ce_aload_n dL_cork_0 rfl ?_
  refine ce_iconst (v := nI 0) dL_cork_1 (by decide) ?_
  refine ce_aload_n dL_cork_2 rfl ?_
  refine ce_iload_n dL_cork_3 rfl ?_
  refine ce_iload_n dL_cork_4 rfl ?_
  refine ce_callVX dL_cork_5 hX7_cork kRL_65 hC rfl rfl hX.1 rfl (by decide) (Nat.le_of_ble_eq_true rfl) (by decide) (by decide) (fun v σ1 g1 h => ?_) (fun E σ1 g1 h => ?_)
  · obtain ⟨rfl, k1, k2, k3⟩ := h
    refine ce_i2l (v := V.toInt64) dL_cork_8 rfl ?_
    refine ce_last (n := 0) (len := 1) dL_cork_9 (by rw [k1.2.1]; exact hw.1) rfl (by rw [k1.2.2.1]; exact hw.2) (by decide) (by decide) ?_
    have h9 : kl_h σ g a w S2 0 V (some (.int (nI 0))) (ce_upL σ1 w 0 V.toInt64) g1 := ⟨rfl, ⟨k1.1, k1.2.1, k1.2.2.1, k1.2.2.2⟩, fun _ => by rw [ce_upL_eq]; exact if_pos rfl, k2, k3⟩
    refine ce_goto (tgt := 21) dL_cork_10 (by decide) ?_
    refine ce_iconst (v := nI 0) dL_cork_21 (by decide) ?_
    exact ce_iret dL_cork_22 rfl rfl (by decide) (by decide) h9
  · exact h.elim
set_option maxHeartbeats 2000000 in
set_option maxRecDepth 20000 in
theorem h_cork_n1 {σ : ce_S} {g : ce_D} {a : Nat} {b : Nat → Nat} {S S2 : ks_S} {V : Int32} (w : Nat) (x0 : Int32) (x1 : Int32) (hX : ce_LX σ a b) (hC : ce_CT (ce_rx 2) mX7_cork [.ref a, .int x0, .int x1] σ g (fun _ _ _ => False) (kx_XR 1 σ g a b S)) : ce_CT ce_rh mL_cork [.ref a, .int x0, .int x1, .ref w] σ g (kl_h σ g a w S 1 V) ce_no := by
  refine ce_enterH (by decide) rfl (Nat.le_of_ble_eq_true rfl) (L := [some (.ref a), some (.int x0), some (.int x1), some (.ref w), none]) rfl ?_
  refine ce_aload_n dL_cork_0 rfl ?_
  refine ce_iconst (v := nI 0) dL_cork_1 (by decide) ?_
  refine ce_aload_n dL_cork_2 rfl ?_
  refine ce_iload_n dL_cork_3 rfl ?_
  refine ce_iload_n dL_cork_4 rfl ?_
  refine ce_callVX dL_cork_5 hX7_cork kRL_65 hC rfl rfl hX.1 rfl (by decide) (Nat.le_of_ble_eq_true rfl) (by decide) (by decide) (fun v σ1 g1 h => ?_) (fun E σ1 g1 h => ?_)
  · exact h.elim
  · obtain ⟨⟨eE, n, hn, rfl⟩, k1, k2⟩ := h
    have eE : E = "java/lang/IndexOutOfBoundsException" := eE
    subst eE
    refine ce_xcatch (E := "java/lang/IndexOutOfBoundsException") [] 0 10 [(0, 10, 17, 15)] rfl (by decide) (fun _ hz => by cases hz) ⟨by decide, by decide⟩ (by decide) kRL_28 wc_IndexOutOfBoundsException (fun q => ?_)
    have h9 : kl_h σ g a w S 1 V (some (.int (nI 1))) (n, σ.2) g1 := ⟨rfl, ⟨hn, rfl, rfl, fun _ _ => rfl⟩, fun q => absurd q (by decide), ⟨b, hX, k1⟩, k2⟩
    refine ce_astore dL_cork_13 (Nat.le_of_ble_eq_true rfl) rfl ?_
    refine ce_iconst (v := nI 1) dL_cork_15 (by decide) ?_
    exact ce_iret dL_cork_16 rfl rfl (by decide) (by decide) h9
set_option maxHeartbeats 2000000 in
set_option maxRecDepth 20000 in
theorem h_cork_n3 {σ : ce_S} {g : ce_D} {a : Nat} {b : Nat → Nat} {S S2 : ks_S} {V : Int32} (w : Nat) (x0 : Int32) (x1 : Int32) (hX : ce_LX σ a b) (hC : ce_CT (ce_rx 2) mX7_cork [.ref a, .int x0, .int x1] σ g (fun _ _ _ => False) (kx_XR 3 σ g a b S)) : ce_CT ce_rh mL_cork [.ref a, .int x0, .int x1, .ref w] σ g (kl_h σ g a w S 2 V) ce_no := by
  refine ce_enterH (by decide) rfl (Nat.le_of_ble_eq_true rfl) (L := [some (.ref a), some (.int x0), some (.int x1), some (.ref w), none]) rfl ?_
  refine ce_aload_n dL_cork_0 rfl ?_
  refine ce_iconst (v := nI 0) dL_cork_1 (by decide) ?_
  refine ce_aload_n dL_cork_2 rfl ?_
  refine ce_iload_n dL_cork_3 rfl ?_
  refine ce_iload_n dL_cork_4 rfl ?_
  refine ce_callVX dL_cork_5 hX7_cork kRL_65 hC rfl rfl hX.1 rfl (by decide) (Nat.le_of_ble_eq_true rfl) (by decide) (by decide) (fun v σ1 g1 h => ?_) (fun E σ1 g1 h => ?_)
  · exact h.elim
  · obtain ⟨⟨eE, n, hn, rfl⟩, k1, k2⟩ := h
    have eE : E = "java/lang/IllegalStateException" := eE
    subst eE
    refine ce_xcatch (E := "java/lang/IllegalStateException") [(0, 10, 13, 28)] 0 10 [] rfl (by decide) (fun z hz => by
        have hz : z = (0, 10, 13, 28) := by simpa using hz
        rcases hz with rfl
        · exact ⟨by decide, "java/lang/IndexOutOfBoundsException", by decide, by decide, kRL_28⟩) ⟨by decide, by decide⟩ (by decide) kRL_15 wc_IllegalStateException (fun q => ?_)
    have h9 : kl_h σ g a w S 2 V (some (.int (nI 2))) (n, σ.2) g1 := ⟨rfl, ⟨hn, rfl, rfl, fun _ _ => rfl⟩, fun q => absurd q (by decide), ⟨b, hX, k1⟩, k2⟩
    refine ce_astore dL_cork_17 (Nat.le_of_ble_eq_true rfl) rfl ?_
    refine ce_iconst (v := nI 2) dL_cork_19 (by decide) ?_
    exact ce_iret dL_cork_20 rfl rfl (by decide) (by decide) h9
set_option maxHeartbeats 2000000 in
set_option maxRecDepth 20000 in
theorem h_deliver_ok {σ : ce_S} {g : ce_D} {a : Nat} {b : Nat → Nat} {S S2 : ks_S} {V : Int32} (w : Nat) (x0 : Int32) (hX : ce_LX σ a b) (hw : ce_kd σ w = 14 ∧ ce_ln σ w = 1) (hC : ce_CT (ce_r 5) mX7_deliver [.ref a, .int x0] σ g (kl_q σ g a S2 V) ce_no) : ce_CT ce_rh mL_deliver [.ref a, .int x0, .ref w] σ g (kl_h σ g a w S2 0 V) ce_no := by
  refine ce_enterH (by decide) rfl (Nat.le_of_ble_eq_true rfl) (L := [some (.ref a), some (.int x0), some (.ref w), none]) rfl ?_
  refine ce_aload_n dL_deliver_0 rfl ?_
  refine ce_iconst (v := nI 0) dL_deliver_1 (by decide) ?_
  refine ce_aload_n dL_deliver_2 rfl ?_
  refine ce_iload_n dL_deliver_3 rfl ?_
  refine ce_callVX dL_deliver_4 hX7_deliver kRL_55 hC rfl rfl hX.1 rfl (by decide) (Nat.le_of_ble_eq_true rfl) (by decide) (by decide) (fun v σ1 g1 h => ?_) (fun E σ1 g1 h => ?_)
  · obtain ⟨rfl, k1, k2, k3⟩ := h
    refine ce_i2l (v := V.toInt64) dL_deliver_7 rfl ?_
    refine ce_last (n := 0) (len := 1) dL_deliver_8 (by rw [k1.2.1]; exact hw.1) rfl (by rw [k1.2.2.1]; exact hw.2) (by decide) (by decide) ?_
    have h9 : kl_h σ g a w S2 0 V (some (.int (nI 0))) (ce_upL σ1 w 0 V.toInt64) g1 := ⟨rfl, ⟨k1.1, k1.2.1, k1.2.2.1, k1.2.2.2⟩, fun _ => by rw [ce_upL_eq]; exact if_pos rfl, k2, k3⟩
    refine ce_goto (tgt := 18) dL_deliver_9 (by decide) ?_
    refine ce_iconst (v := nI 0) dL_deliver_18 (by decide) ?_
    exact ce_iret dL_deliver_19 rfl rfl (by decide) (by decide) h9
  · exact h.elim
set_option maxHeartbeats 2000000 in
set_option maxRecDepth 20000 in
theorem h_deliver_n1 {σ : ce_S} {g : ce_D} {a : Nat} {b : Nat → Nat} {S S2 : ks_S} {V : Int32} (w : Nat) (x0 : Int32) (hX : ce_LX σ a b) (hC : ce_CT (ce_rx 2) mX7_deliver [.ref a, .int x0] σ g (fun _ _ _ => False) (kx_XR 1 σ g a b S)) : ce_CT ce_rh mL_deliver [.ref a, .int x0, .ref w] σ g (kl_h σ g a w S 1 V) ce_no := by
  refine ce_enterH (by decide) rfl (Nat.le_of_ble_eq_true rfl) (L := [some (.ref a), some (.int x0), some (.ref w), none]) rfl ?_
  refine ce_aload_n dL_deliver_0 rfl ?_
  refine ce_iconst (v := nI 0) dL_deliver_1 (by decide) ?_
  refine ce_aload_n dL_deliver_2 rfl ?_
  refine ce_iload_n dL_deliver_3 rfl ?_
  refine ce_callVX dL_deliver_4 hX7_deliver kRL_55 hC rfl rfl hX.1 rfl (by decide) (Nat.le_of_ble_eq_true rfl) (by decide) (by decide) (fun v σ1 g1 h => ?_) (fun E σ1 g1 h => ?_)
  · exact h.elim
  · obtain ⟨⟨eE, n, hn, rfl⟩, k1, k2⟩ := h
    have eE : E = "java/lang/IndexOutOfBoundsException" := eE
    subst eE
    refine ce_xcatch (E := "java/lang/IndexOutOfBoundsException") [] 0 9 [(0, 9, 15, 15)] rfl (by decide) (fun _ hz => by cases hz) ⟨by decide, by decide⟩ (by decide) kRL_28 wc_IndexOutOfBoundsException (fun q => ?_)
    have h9 : kl_h σ g a w S 1 V (some (.int (nI 1))) (n, σ.2) g1 := ⟨rfl, ⟨hn, rfl, rfl, fun _ _ => rfl⟩, fun q => absurd q (by decide), ⟨b, hX, k1⟩, k2⟩
    refine ce_astore_n dL_deliver_12 (Nat.le_of_ble_eq_true rfl) rfl ?_
    refine ce_iconst (v := nI 1) dL_deliver_13 (by decide) ?_
    exact ce_iret dL_deliver_14 rfl rfl (by decide) (by decide) h9
set_option maxHeartbeats 2000000 in
set_option maxRecDepth 20000 in
theorem h_deliver_n3 {σ : ce_S} {g : ce_D} {a : Nat} {b : Nat → Nat} {S S2 : ks_S} {V : Int32} (w : Nat) (x0 : Int32) (hX : ce_LX σ a b) (hC : ce_CT (ce_rx 2) mX7_deliver [.ref a, .int x0] σ g (fun _ _ _ => False) (kx_XR 3 σ g a b S)) : ce_CT ce_rh mL_deliver [.ref a, .int x0, .ref w] σ g (kl_h σ g a w S 2 V) ce_no := by
  refine ce_enterH (by decide) rfl (Nat.le_of_ble_eq_true rfl) (L := [some (.ref a), some (.int x0), some (.ref w), none]) rfl ?_
  refine ce_aload_n dL_deliver_0 rfl ?_
  refine ce_iconst (v := nI 0) dL_deliver_1 (by decide) ?_
  refine ce_aload_n dL_deliver_2 rfl ?_
  refine ce_iload_n dL_deliver_3 rfl ?_
  refine ce_callVX dL_deliver_4 hX7_deliver kRL_55 hC rfl rfl hX.1 rfl (by decide) (Nat.le_of_ble_eq_true rfl) (by decide) (by decide) (fun v σ1 g1 h => ?_) (fun E σ1 g1 h => ?_)
  · exact h.elim
  · obtain ⟨⟨eE, n, hn, rfl⟩, k1, k2⟩ := h
    have eE : E = "java/lang/IllegalStateException" := eE
    subst eE
    refine ce_xcatch (E := "java/lang/IllegalStateException") [(0, 9, 12, 28)] 0 9 [] rfl (by decide) (fun z hz => by
        have hz : z = (0, 9, 12, 28) := by simpa using hz
        rcases hz with rfl
        · exact ⟨by decide, "java/lang/IndexOutOfBoundsException", by decide, by decide, kRL_28⟩) ⟨by decide, by decide⟩ (by decide) kRL_15 wc_IllegalStateException (fun q => ?_)
    have h9 : kl_h σ g a w S 2 V (some (.int (nI 2))) (n, σ.2) g1 := ⟨rfl, ⟨hn, rfl, rfl, fun _ _ => rfl⟩, fun q => absurd q (by decide), ⟨b, hX, k1⟩, k2⟩
    refine ce_astore_n dL_deliver_15 (Nat.le_of_ble_eq_true rfl) rfl ?_
    refine ce_iconst (v := nI 2) dL_deliver_16 (by decide) ?_
    exact ce_iret dL_deliver_17 rfl rfl (by decide) (by decide) h9
set_option maxHeartbeats 2000000 in
set_option maxRecDepth 20000 in
theorem h_drink_ok {σ : ce_S} {g : ce_D} {a : Nat} {b : Nat → Nat} {S S2 : ks_S} {V : Int32} (w : Nat) (x0 : Int32) (x1 : Int32) (x2 : Int32) (hX : ce_LX σ a b) (hw : ce_kd σ w = 14 ∧ ce_ln σ w = 1) (hC : ce_CT (ce_r 5) mX7_drink [.ref a, .int x0, .int x1, .int x2] σ g (kl_q σ g a S2 V) ce_no) : ce_CT ce_rh mL_drink [.ref a, .int x0, .int x1, .int x2, .ref w] σ g (kl_h σ g a w S2 0 V) ce_no := by
  refine ce_enterH (by decide) rfl (Nat.le_of_ble_eq_true rfl) (L := [some (.ref a), some (.int x0), some (.int x1), some (.int x2), some (.ref w), none]) rfl ?_
  refine ce_aload dL_drink_0 rfl ?_
  refine ce_iconst (v := nI 0) dL_drink_2 (by decide) ?_
  refine ce_aload_n dL_drink_3 rfl ?_
  refine ce_iload_n dL_drink_4 rfl ?_
  refine ce_iload_n dL_drink_5 rfl ?_
  refine ce_iload_n dL_drink_6 rfl ?_
  refine ce_callVX dL_drink_7 hX7_drink kRL_58 hC rfl rfl hX.1 rfl (by decide) (Nat.le_of_ble_eq_true rfl) (by decide) (by decide) (fun v σ1 g1 h => ?_) (fun E σ1 g1 h => ?_)
  · obtain ⟨rfl, k1, k2, k3⟩ := h
    refine ce_i2l (v := V.toInt64) dL_drink_10 rfl ?_
    refine ce_last (n := 0) (len := 1) dL_drink_11 (by rw [k1.2.1]; exact hw.1) rfl (by rw [k1.2.2.1]; exact hw.2) (by decide) (by decide) ?_
    have h9 : kl_h σ g a w S2 0 V (some (.int (nI 0))) (ce_upL σ1 w 0 V.toInt64) g1 := ⟨rfl, ⟨k1.1, k1.2.1, k1.2.2.1, k1.2.2.2⟩, fun _ => by rw [ce_upL_eq]; exact if_pos rfl, k2, k3⟩
    refine ce_goto (tgt := 27) dL_drink_12 (by decide) ?_
    refine ce_iconst (v := nI 0) dL_drink_27 (by decide) ?_
    exact ce_iret dL_drink_28 rfl rfl (by decide) (by decide) h9
  · exact h.elim
set_option maxHeartbeats 2000000 in
set_option maxRecDepth 20000 in
theorem h_drink_n1 {σ : ce_S} {g : ce_D} {a : Nat} {b : Nat → Nat} {S S2 : ks_S} {V : Int32} (w : Nat) (x0 : Int32) (x1 : Int32) (x2 : Int32) (hX : ce_LX σ a b) (hC : ce_CT (ce_rx 2) mX7_drink [.ref a, .int x0, .int x1, .int x2] σ g (fun _ _ _ => False) (kx_XR 1 σ g a b S)) : ce_CT ce_rh mL_drink [.ref a, .int x0, .int x1, .int x2, .ref w] σ g (kl_h σ g a w S 1 V) ce_no := by
  refine ce_enterH (by decide) rfl (Nat.le_of_ble_eq_true rfl) (L := [some (.ref a), some (.int x0), some (.int x1), some (.int x2), some (.ref w), none]) rfl ?_
  refine ce_aload dL_drink_0 rfl ?_
  refine ce_iconst (v := nI 0) dL_drink_2 (by decide) ?_
  refine ce_aload_n dL_drink_3 rfl ?_
  refine ce_iload_n dL_drink_4 rfl ?_
  refine ce_iload_n dL_drink_5 rfl ?_
  refine ce_iload_n dL_drink_6 rfl ?_
  refine ce_callVX dL_drink_7 hX7_drink kRL_58 hC rfl rfl hX.1 rfl (by decide) (Nat.le_of_ble_eq_true rfl) (by decide) (by decide) (fun v σ1 g1 h => ?_) (fun E σ1 g1 h => ?_)
  · exact h.elim
  · obtain ⟨⟨eE, n, hn, rfl⟩, k1, k2⟩ := h
    have eE : E = "java/lang/IndexOutOfBoundsException" := eE
    subst eE
    refine ce_xcatch (E := "java/lang/IndexOutOfBoundsException") [] 0 12 [(0, 12, 19, 13), (0, 12, 23, 15)] rfl (by decide) (fun _ hz => by cases hz) ⟨by decide, by decide⟩ (by decide) kRL_28 wc_IndexOutOfBoundsException (fun q => ?_)
    have h9 : kl_h σ g a w S 1 V (some (.int (nI 1))) (n, σ.2) g1 := ⟨rfl, ⟨hn, rfl, rfl, fun _ _ => rfl⟩, fun q => absurd q (by decide), ⟨b, hX, k1⟩, k2⟩
    refine ce_astore dL_drink_15 (Nat.le_of_ble_eq_true rfl) rfl ?_
    refine ce_iconst (v := nI 1) dL_drink_17 (by decide) ?_
    exact ce_iret dL_drink_18 rfl rfl (by decide) (by decide) h9
set_option maxHeartbeats 2000000 in
set_option maxRecDepth 20000 in
theorem h_drink_n2 {σ : ce_S} {g : ce_D} {a : Nat} {b : Nat → Nat} {S S2 : ks_S} {V : Int32} (w : Nat) (x0 : Int32) (x1 : Int32) (x2 : Int32) (hX : ce_LX σ a b) (hC : ce_CT (ce_rx 2) mX7_drink [.ref a, .int x0, .int x1, .int x2] σ g (fun _ _ _ => False) (kx_XR 2 σ g a b S)) : ce_CT ce_rh mL_drink [.ref a, .int x0, .int x1, .int x2, .ref w] σ g (kl_h σ g a w S 2 V) ce_no := by
  refine ce_enterH (by decide) rfl (Nat.le_of_ble_eq_true rfl) (L := [some (.ref a), some (.int x0), some (.int x1), some (.int x2), some (.ref w), none]) rfl ?_
  refine ce_aload dL_drink_0 rfl ?_
  refine ce_iconst (v := nI 0) dL_drink_2 (by decide) ?_
  refine ce_aload_n dL_drink_3 rfl ?_
  refine ce_iload_n dL_drink_4 rfl ?_
  refine ce_iload_n dL_drink_5 rfl ?_
  refine ce_iload_n dL_drink_6 rfl ?_
  refine ce_callVX dL_drink_7 hX7_drink kRL_58 hC rfl rfl hX.1 rfl (by decide) (Nat.le_of_ble_eq_true rfl) (by decide) (by decide) (fun v σ1 g1 h => ?_) (fun E σ1 g1 h => ?_)
  · exact h.elim
  · obtain ⟨⟨eE, n, hn, rfl⟩, k1, k2⟩ := h
    have eE : E = "java/lang/IllegalArgumentException" := eE
    subst eE
    refine ce_xcatch (E := "java/lang/IllegalArgumentException") [(0, 12, 15, 28)] 0 12 [(0, 12, 23, 15)] rfl (by decide) (fun z hz => by
        have hz : z = (0, 12, 15, 28) := by simpa using hz
        rcases hz with rfl
        · exact ⟨by decide, "java/lang/IndexOutOfBoundsException", by decide, by decide, kRL_28⟩) ⟨by decide, by decide⟩ (by decide) kRL_13 wc_IllegalArgumentException (fun q => ?_)
    have h9 : kl_h σ g a w S 2 V (some (.int (nI 2))) (n, σ.2) g1 := ⟨rfl, ⟨hn, rfl, rfl, fun _ _ => rfl⟩, fun q => absurd q (by decide), ⟨b, hX, k1⟩, k2⟩
    refine ce_astore dL_drink_19 (Nat.le_of_ble_eq_true rfl) rfl ?_
    refine ce_iconst (v := nI 2) dL_drink_21 (by decide) ?_
    exact ce_iret dL_drink_22 rfl rfl (by decide) (by decide) h9
set_option maxHeartbeats 2000000 in
set_option maxRecDepth 20000 in
theorem h_drink_n3 {σ : ce_S} {g : ce_D} {a : Nat} {b : Nat → Nat} {S S2 : ks_S} {V : Int32} (w : Nat) (x0 : Int32) (x1 : Int32) (x2 : Int32) (hX : ce_LX σ a b) (hC : ce_CT (ce_rx 2) mX7_drink [.ref a, .int x0, .int x1, .int x2] σ g (fun _ _ _ => False) (kx_XR 3 σ g a b S)) : ce_CT ce_rh mL_drink [.ref a, .int x0, .int x1, .int x2, .ref w] σ g (kl_h σ g a w S 3 V) ce_no := by
  refine ce_enterH (by decide) rfl (Nat.le_of_ble_eq_true rfl) (L := [some (.ref a), some (.int x0), some (.int x1), some (.int x2), some (.ref w), none]) rfl ?_
  refine ce_aload dL_drink_0 rfl ?_
  refine ce_iconst (v := nI 0) dL_drink_2 (by decide) ?_
  refine ce_aload_n dL_drink_3 rfl ?_
  refine ce_iload_n dL_drink_4 rfl ?_
  refine ce_iload_n dL_drink_5 rfl ?_
  refine ce_iload_n dL_drink_6 rfl ?_
  refine ce_callVX dL_drink_7 hX7_drink kRL_58 hC rfl rfl hX.1 rfl (by decide) (Nat.le_of_ble_eq_true rfl) (by decide) (by decide) (fun v σ1 g1 h => ?_) (fun E σ1 g1 h => ?_)
  · exact h.elim
  · obtain ⟨⟨eE, n, hn, rfl⟩, k1, k2⟩ := h
    have eE : E = "java/lang/IllegalStateException" := eE
    subst eE
    refine ce_xcatch (E := "java/lang/IllegalStateException") [(0, 12, 15, 28), (0, 12, 19, 13)] 0 12 [] rfl (by decide) (fun z hz => by
        have hz : z = (0, 12, 15, 28) ∨ z = (0, 12, 19, 13) := by simpa using hz
        rcases hz with rfl | rfl
        · exact ⟨by decide, "java/lang/IndexOutOfBoundsException", by decide, by decide, kRL_28⟩
        · exact ⟨by decide, "java/lang/IllegalArgumentException", by decide, by decide, kRL_13⟩) ⟨by decide, by decide⟩ (by decide) kRL_15 wc_IllegalStateException (fun q => ?_)
    have h9 : kl_h σ g a w S 3 V (some (.int (nI 3))) (n, σ.2) g1 := ⟨rfl, ⟨hn, rfl, rfl, fun _ _ => rfl⟩, fun q => absurd q (by decide), ⟨b, hX, k1⟩, k2⟩
    refine ce_astore dL_drink_23 (Nat.le_of_ble_eq_true rfl) rfl ?_
    refine ce_iconst (v := nI 3) dL_drink_25 (by decide) ?_
    exact ce_iret dL_drink_26 rfl rfl (by decide) (by decide) h9
set_option maxHeartbeats 2000000 in
set_option maxRecDepth 20000 in
theorem h_give_ok {σ : ce_S} {g : ce_D} {a : Nat} {b : Nat → Nat} {S S2 : ks_S} {V : Int32} (w : Nat) (x0 : Int32) (x1 : Int32) (x2 : Int32) (x3 : Int32) (hX : ce_LX σ a b) (hw : ce_kd σ w = 14 ∧ ce_ln σ w = 1) (hC : ce_CT (ce_r 5) mX7_give [.ref a, .int x0, .int x1, .int x2, .int x3] σ g (kl_q σ g a S2 V) ce_no) : ce_CT ce_rh mL_give [.ref a, .int x0, .int x1, .int x2, .int x3, .ref w] σ g (kl_h σ g a w S2 0 V) ce_no := by
  refine ce_enterH (by decide) rfl (Nat.le_of_ble_eq_true rfl) (L := [some (.ref a), some (.int x0), some (.int x1), some (.int x2), some (.int x3), some (.ref w), none]) rfl ?_
  refine ce_aload dL_give_0 rfl ?_
  refine ce_iconst (v := nI 0) dL_give_2 (by decide) ?_
  refine ce_aload_n dL_give_3 rfl ?_
  refine ce_iload_n dL_give_4 rfl ?_
  refine ce_iload_n dL_give_5 rfl ?_
  refine ce_iload_n dL_give_6 rfl ?_
  refine ce_iload dL_give_7 rfl ?_
  refine ce_callVX dL_give_9 hX7_give kRL_61 hC rfl rfl hX.1 rfl (by decide) (Nat.le_of_ble_eq_true rfl) (by decide) (by decide) (fun v σ1 g1 h => ?_) (fun E σ1 g1 h => ?_)
  · obtain ⟨rfl, k1, k2, k3⟩ := h
    refine ce_i2l (v := V.toInt64) dL_give_12 rfl ?_
    refine ce_last (n := 0) (len := 1) dL_give_13 (by rw [k1.2.1]; exact hw.1) rfl (by rw [k1.2.2.1]; exact hw.2) (by decide) (by decide) ?_
    have h9 : kl_h σ g a w S2 0 V (some (.int (nI 0))) (ce_upL σ1 w 0 V.toInt64) g1 := ⟨rfl, ⟨k1.1, k1.2.1, k1.2.2.1, k1.2.2.2⟩, fun _ => by rw [ce_upL_eq]; exact if_pos rfl, k2, k3⟩
    refine ce_goto (tgt := 29) dL_give_14 (by decide) ?_
    refine ce_iconst (v := nI 0) dL_give_29 (by decide) ?_
    exact ce_iret dL_give_30 rfl rfl (by decide) (by decide) h9
  · exact h.elim
set_option maxHeartbeats 2000000 in
set_option maxRecDepth 20000 in
theorem h_give_n1 {σ : ce_S} {g : ce_D} {a : Nat} {b : Nat → Nat} {S S2 : ks_S} {V : Int32} (w : Nat) (x0 : Int32) (x1 : Int32) (x2 : Int32) (x3 : Int32) (hX : ce_LX σ a b) (hC : ce_CT (ce_rx 2) mX7_give [.ref a, .int x0, .int x1, .int x2, .int x3] σ g (fun _ _ _ => False) (kx_XR 1 σ g a b S)) : ce_CT ce_rh mL_give [.ref a, .int x0, .int x1, .int x2, .int x3, .ref w] σ g (kl_h σ g a w S 1 V) ce_no := by
  refine ce_enterH (by decide) rfl (Nat.le_of_ble_eq_true rfl) (L := [some (.ref a), some (.int x0), some (.int x1), some (.int x2), some (.int x3), some (.ref w), none]) rfl ?_
  refine ce_aload dL_give_0 rfl ?_
  refine ce_iconst (v := nI 0) dL_give_2 (by decide) ?_
  refine ce_aload_n dL_give_3 rfl ?_
  refine ce_iload_n dL_give_4 rfl ?_
  refine ce_iload_n dL_give_5 rfl ?_
  refine ce_iload_n dL_give_6 rfl ?_
  refine ce_iload dL_give_7 rfl ?_
  refine ce_callVX dL_give_9 hX7_give kRL_61 hC rfl rfl hX.1 rfl (by decide) (Nat.le_of_ble_eq_true rfl) (by decide) (by decide) (fun v σ1 g1 h => ?_) (fun E σ1 g1 h => ?_)
  · exact h.elim
  · obtain ⟨⟨eE, n, hn, rfl⟩, k1, k2⟩ := h
    have eE : E = "java/lang/IndexOutOfBoundsException" := eE
    subst eE
    refine ce_xcatch (E := "java/lang/IndexOutOfBoundsException") [] 0 14 [(0, 14, 21, 13), (0, 14, 25, 15)] rfl (by decide) (fun _ hz => by cases hz) ⟨by decide, by decide⟩ (by decide) kRL_28 wc_IndexOutOfBoundsException (fun q => ?_)
    have h9 : kl_h σ g a w S 1 V (some (.int (nI 1))) (n, σ.2) g1 := ⟨rfl, ⟨hn, rfl, rfl, fun _ _ => rfl⟩, fun q => absurd q (by decide), ⟨b, hX, k1⟩, k2⟩
    refine ce_astore dL_give_17 (Nat.le_of_ble_eq_true rfl) rfl ?_
    refine ce_iconst (v := nI 1) dL_give_19 (by decide) ?_
    exact ce_iret dL_give_20 rfl rfl (by decide) (by decide) h9
set_option maxHeartbeats 2000000 in
set_option maxRecDepth 20000 in
theorem h_give_n2 {σ : ce_S} {g : ce_D} {a : Nat} {b : Nat → Nat} {S S2 : ks_S} {V : Int32} (w : Nat) (x0 : Int32) (x1 : Int32) (x2 : Int32) (x3 : Int32) (hX : ce_LX σ a b) (hC : ce_CT (ce_rx 2) mX7_give [.ref a, .int x0, .int x1, .int x2, .int x3] σ g (fun _ _ _ => False) (kx_XR 2 σ g a b S)) : ce_CT ce_rh mL_give [.ref a, .int x0, .int x1, .int x2, .int x3, .ref w] σ g (kl_h σ g a w S 2 V) ce_no := by
  refine ce_enterH (by decide) rfl (Nat.le_of_ble_eq_true rfl) (L := [some (.ref a), some (.int x0), some (.int x1), some (.int x2), some (.int x3), some (.ref w), none]) rfl ?_
  refine ce_aload dL_give_0 rfl ?_
  refine ce_iconst (v := nI 0) dL_give_2 (by decide) ?_
  refine ce_aload_n dL_give_3 rfl ?_
  refine ce_iload_n dL_give_4 rfl ?_
  refine ce_iload_n dL_give_5 rfl ?_
  refine ce_iload_n dL_give_6 rfl ?_
  refine ce_iload dL_give_7 rfl ?_
  refine ce_callVX dL_give_9 hX7_give kRL_61 hC rfl rfl hX.1 rfl (by decide) (Nat.le_of_ble_eq_true rfl) (by decide) (by decide) (fun v σ1 g1 h => ?_) (fun E σ1 g1 h => ?_)
  · exact h.elim
  · obtain ⟨⟨eE, n, hn, rfl⟩, k1, k2⟩ := h
    have eE : E = "java/lang/IllegalArgumentException" := eE
    subst eE
    refine ce_xcatch (E := "java/lang/IllegalArgumentException") [(0, 14, 17, 28)] 0 14 [(0, 14, 25, 15)] rfl (by decide) (fun z hz => by
        have hz : z = (0, 14, 17, 28) := by simpa using hz
        rcases hz with rfl
        · exact ⟨by decide, "java/lang/IndexOutOfBoundsException", by decide, by decide, kRL_28⟩) ⟨by decide, by decide⟩ (by decide) kRL_13 wc_IllegalArgumentException (fun q => ?_)
    have h9 : kl_h σ g a w S 2 V (some (.int (nI 2))) (n, σ.2) g1 := ⟨rfl, ⟨hn, rfl, rfl, fun _ _ => rfl⟩, fun q => absurd q (by decide), ⟨b, hX, k1⟩, k2⟩
    refine ce_astore dL_give_21 (Nat.le_of_ble_eq_true rfl) rfl ?_
    refine ce_iconst (v := nI 2) dL_give_23 (by decide) ?_
    exact ce_iret dL_give_24 rfl rfl (by decide) (by decide) h9
set_option maxHeartbeats 2000000 in
set_option maxRecDepth 20000 in
theorem h_give_n3 {σ : ce_S} {g : ce_D} {a : Nat} {b : Nat → Nat} {S S2 : ks_S} {V : Int32} (w : Nat) (x0 : Int32) (x1 : Int32) (x2 : Int32) (x3 : Int32) (hX : ce_LX σ a b) (hC : ce_CT (ce_rx 2) mX7_give [.ref a, .int x0, .int x1, .int x2, .int x3] σ g (fun _ _ _ => False) (kx_XR 3 σ g a b S)) : ce_CT ce_rh mL_give [.ref a, .int x0, .int x1, .int x2, .int x3, .ref w] σ g (kl_h σ g a w S 3 V) ce_no := by
  refine ce_enterH (by decide) rfl (Nat.le_of_ble_eq_true rfl) (L := [some (.ref a), some (.int x0), some (.int x1), some (.int x2), some (.int x3), some (.ref w), none]) rfl ?_
  refine ce_aload dL_give_0 rfl ?_
  refine ce_iconst (v := nI 0) dL_give_2 (by decide) ?_
  refine ce_aload_n dL_give_3 rfl ?_
  refine ce_iload_n dL_give_4 rfl ?_
  refine ce_iload_n dL_give_5 rfl ?_
  refine ce_iload_n dL_give_6 rfl ?_
  refine ce_iload dL_give_7 rfl ?_
  refine ce_callVX dL_give_9 hX7_give kRL_61 hC rfl rfl hX.1 rfl (by decide) (Nat.le_of_ble_eq_true rfl) (by decide) (by decide) (fun v σ1 g1 h => ?_) (fun E σ1 g1 h => ?_)
  · exact h.elim
  · obtain ⟨⟨eE, n, hn, rfl⟩, k1, k2⟩ := h
    have eE : E = "java/lang/IllegalStateException" := eE
    subst eE
    refine ce_xcatch (E := "java/lang/IllegalStateException") [(0, 14, 17, 28), (0, 14, 21, 13)] 0 14 [] rfl (by decide) (fun z hz => by
        have hz : z = (0, 14, 17, 28) ∨ z = (0, 14, 21, 13) := by simpa using hz
        rcases hz with rfl | rfl
        · exact ⟨by decide, "java/lang/IndexOutOfBoundsException", by decide, by decide, kRL_28⟩
        · exact ⟨by decide, "java/lang/IllegalArgumentException", by decide, by decide, kRL_13⟩) ⟨by decide, by decide⟩ (by decide) kRL_15 wc_IllegalStateException (fun q => ?_)
    have h9 : kl_h σ g a w S 3 V (some (.int (nI 3))) (n, σ.2) g1 := ⟨rfl, ⟨hn, rfl, rfl, fun _ _ => rfl⟩, fun q => absurd q (by decide), ⟨b, hX, k1⟩, k2⟩
    refine ce_astore dL_give_25 (Nat.le_of_ble_eq_true rfl) rfl ?_
    refine ce_iconst (v := nI 3) dL_give_27 (by decide) ?_
    exact ce_iret dL_give_28 rfl rfl (by decide) (by decide) h9
set_option maxHeartbeats 2000000 in
set_option maxRecDepth 20000 in
theorem h_has_ok {σ : ce_S} {g : ce_D} {a : Nat} {b : Nat → Nat} {S S2 : ks_S} {V : Int32} (w : Nat) (x0 : Int32) (x1 : Int32) (x2 : Int32) (hX : ce_LX σ a b) (hw : ce_kd σ w = 14 ∧ ce_ln σ w = 1) (hC : ce_CT (ce_r 5) mX7_has [.ref a, .int x0, .int x1, .int x2] σ g (kl_q σ g a S2 V) ce_no) : ce_CT ce_rh mL_has [.ref a, .int x0, .int x1, .int x2, .ref w] σ g (kl_h σ g a w S2 0 V) ce_no := by
  refine ce_enterH (by decide) rfl (Nat.le_of_ble_eq_true rfl) (L := [some (.ref a), some (.int x0), some (.int x1), some (.int x2), some (.ref w), none]) rfl ?_
  refine ce_aload dL_has_0 rfl ?_
  refine ce_iconst (v := nI 0) dL_has_2 (by decide) ?_
  refine ce_aload_n dL_has_3 rfl ?_
  refine ce_iload_n dL_has_4 rfl ?_
  refine ce_iload_n dL_has_5 rfl ?_
  refine ce_iload_n dL_has_6 rfl ?_
  refine ce_callVX dL_has_7 hX7_has kRL_36 hC rfl rfl hX.1 rfl (by decide) (Nat.le_of_ble_eq_true rfl) (by decide) (by decide) (fun v σ1 g1 h => ?_) (fun E σ1 g1 h => ?_)
  · obtain ⟨rfl, k1, k2, k3⟩ := h
    refine ce_i2l (v := V.toInt64) dL_has_10 rfl ?_
    refine ce_last (n := 0) (len := 1) dL_has_11 (by rw [k1.2.1]; exact hw.1) rfl (by rw [k1.2.2.1]; exact hw.2) (by decide) (by decide) ?_
    have h9 : kl_h σ g a w S2 0 V (some (.int (nI 0))) (ce_upL σ1 w 0 V.toInt64) g1 := ⟨rfl, ⟨k1.1, k1.2.1, k1.2.2.1, k1.2.2.2⟩, fun _ => by rw [ce_upL_eq]; exact if_pos rfl, k2, k3⟩
    refine ce_goto (tgt := 23) dL_has_12 (by decide) ?_
    refine ce_iconst (v := nI 0) dL_has_23 (by decide) ?_
    exact ce_iret dL_has_24 rfl rfl (by decide) (by decide) h9
  · exact h.elim
set_option maxHeartbeats 2000000 in
set_option maxRecDepth 20000 in
theorem h_has_n1 {σ : ce_S} {g : ce_D} {a : Nat} {b : Nat → Nat} {S S2 : ks_S} {V : Int32} (w : Nat) (x0 : Int32) (x1 : Int32) (x2 : Int32) (hX : ce_LX σ a b) (hC : ce_CT (ce_rx 2) mX7_has [.ref a, .int x0, .int x1, .int x2] σ g (fun _ _ _ => False) (kx_XR 1 σ g a b S)) : ce_CT ce_rh mL_has [.ref a, .int x0, .int x1, .int x2, .ref w] σ g (kl_h σ g a w S 1 V) ce_no := by
  refine ce_enterH (by decide) rfl (Nat.le_of_ble_eq_true rfl) (L := [some (.ref a), some (.int x0), some (.int x1), some (.int x2), some (.ref w), none]) rfl ?_
  refine ce_aload dL_has_0 rfl ?_
  refine ce_iconst (v := nI 0) dL_has_2 (by decide) ?_
  refine ce_aload_n dL_has_3 rfl ?_
  refine ce_iload_n dL_has_4 rfl ?_
  refine ce_iload_n dL_has_5 rfl ?_
  refine ce_iload_n dL_has_6 rfl ?_
  refine ce_callVX dL_has_7 hX7_has kRL_36 hC rfl rfl hX.1 rfl (by decide) (Nat.le_of_ble_eq_true rfl) (by decide) (by decide) (fun v σ1 g1 h => ?_) (fun E σ1 g1 h => ?_)
  · exact h.elim
  · obtain ⟨⟨eE, n, hn, rfl⟩, k1, k2⟩ := h
    have eE : E = "java/lang/IndexOutOfBoundsException" := eE
    subst eE
    refine ce_xcatch (E := "java/lang/IndexOutOfBoundsException") [] 0 12 [(0, 12, 19, 13)] rfl (by decide) (fun _ hz => by cases hz) ⟨by decide, by decide⟩ (by decide) kRL_28 wc_IndexOutOfBoundsException (fun q => ?_)
    have h9 : kl_h σ g a w S 1 V (some (.int (nI 1))) (n, σ.2) g1 := ⟨rfl, ⟨hn, rfl, rfl, fun _ _ => rfl⟩, fun q => absurd q (by decide), ⟨b, hX, k1⟩, k2⟩
    refine ce_astore dL_has_15 (Nat.le_of_ble_eq_true rfl) rfl ?_
    refine ce_iconst (v := nI 1) dL_has_17 (by decide) ?_
    exact ce_iret dL_has_18 rfl rfl (by decide) (by decide) h9
set_option maxHeartbeats 2000000 in
set_option maxRecDepth 20000 in
theorem h_has_n2 {σ : ce_S} {g : ce_D} {a : Nat} {b : Nat → Nat} {S S2 : ks_S} {V : Int32} (w : Nat) (x0 : Int32) (x1 : Int32) (x2 : Int32) (hX : ce_LX σ a b) (hC : ce_CT (ce_rx 2) mX7_has [.ref a, .int x0, .int x1, .int x2] σ g (fun _ _ _ => False) (kx_XR 2 σ g a b S)) : ce_CT ce_rh mL_has [.ref a, .int x0, .int x1, .int x2, .ref w] σ g (kl_h σ g a w S 2 V) ce_no := by
  refine ce_enterH (by decide) rfl (Nat.le_of_ble_eq_true rfl) (L := [some (.ref a), some (.int x0), some (.int x1), some (.int x2), some (.ref w), none]) rfl ?_
  refine ce_aload dL_has_0 rfl ?_
  refine ce_iconst (v := nI 0) dL_has_2 (by decide) ?_
  refine ce_aload_n dL_has_3 rfl ?_
  refine ce_iload_n dL_has_4 rfl ?_
  refine ce_iload_n dL_has_5 rfl ?_
  refine ce_iload_n dL_has_6 rfl ?_
  refine ce_callVX dL_has_7 hX7_has kRL_36 hC rfl rfl hX.1 rfl (by decide) (Nat.le_of_ble_eq_true rfl) (by decide) (by decide) (fun v σ1 g1 h => ?_) (fun E σ1 g1 h => ?_)
  · exact h.elim
  · obtain ⟨⟨eE, n, hn, rfl⟩, k1, k2⟩ := h
    have eE : E = "java/lang/IllegalArgumentException" := eE
    subst eE
    refine ce_xcatch (E := "java/lang/IllegalArgumentException") [(0, 12, 15, 28)] 0 12 [] rfl (by decide) (fun z hz => by
        have hz : z = (0, 12, 15, 28) := by simpa using hz
        rcases hz with rfl
        · exact ⟨by decide, "java/lang/IndexOutOfBoundsException", by decide, by decide, kRL_28⟩) ⟨by decide, by decide⟩ (by decide) kRL_13 wc_IllegalArgumentException (fun q => ?_)
    have h9 : kl_h σ g a w S 2 V (some (.int (nI 2))) (n, σ.2) g1 := ⟨rfl, ⟨hn, rfl, rfl, fun _ _ => rfl⟩, fun q => absurd q (by decide), ⟨b, hX, k1⟩, k2⟩
    refine ce_astore dL_has_19 (Nat.le_of_ble_eq_true rfl) rfl ?_
    refine ce_iconst (v := nI 2) dL_has_21 (by decide) ?_
    exact ce_iret dL_has_22 rfl rfl (by decide) (by decide) h9
set_option maxHeartbeats 2000000 in
set_option maxRecDepth 20000 in
theorem h_load_ok {σ : ce_S} {g : ce_D} {a : Nat} {b : Nat → Nat} {S S2 : ks_S} {V : Int32} (w : Nat) (hX : ce_LX σ a b) (hw : ce_kd σ w = 14 ∧ ce_ln σ w = 1) (hC : ce_CT (ce_r 5) mX7_load [.ref a] σ g (kl_q σ g a S2 V) ce_no) : ce_CT ce_rh mL_load [.ref a, .ref w] σ g (kl_h σ g a w S2 0 V) ce_no := by
  refine ce_enterH (by decide) rfl (Nat.le_of_ble_eq_true rfl) (L := [some (.ref a), some (.ref w), none]) rfl ?_
  refine ce_aload_n dL_load_0 rfl ?_
  refine ce_iconst (v := nI 0) dL_load_1 (by decide) ?_
  refine ce_aload_n dL_load_2 rfl ?_
  refine ce_callVX dL_load_3 hX7_load kRL_17 hC rfl rfl hX.1 rfl (by decide) (Nat.le_of_ble_eq_true rfl) (by decide) (by decide) (fun v σ1 g1 h => ?_) (fun E σ1 g1 h => ?_)
  · obtain ⟨rfl, k1, k2, k3⟩ := h
    refine ce_i2l (v := V.toInt64) dL_load_6 rfl ?_
    refine ce_last (n := 0) (len := 1) dL_load_7 (by rw [k1.2.1]; exact hw.1) rfl (by rw [k1.2.2.1]; exact hw.2) (by decide) (by decide) ?_
    have h9 : kl_h σ g a w S2 0 V (some (.int (nI 0))) (ce_upL σ1 w 0 V.toInt64) g1 := ⟨rfl, ⟨k1.1, k1.2.1, k1.2.2.1, k1.2.2.2⟩, fun _ => by rw [ce_upL_eq]; exact if_pos rfl, k2, k3⟩
    refine ce_goto (tgt := 14) dL_load_8 (by decide) ?_
    refine ce_iconst (v := nI 0) dL_load_14 (by decide) ?_
    exact ce_iret dL_load_15 rfl rfl (by decide) (by decide) h9
  · exact h.elim
set_option maxHeartbeats 2000000 in
set_option maxRecDepth 20000 in
theorem h_load_n3 {σ : ce_S} {g : ce_D} {a : Nat} {b : Nat → Nat} {S S2 : ks_S} {V : Int32} (w : Nat) (hX : ce_LX σ a b) (hC : ce_CT (ce_rx 3) mX7_load [.ref a] σ g (fun _ _ _ => False) (kx_XR 3 σ g a b S)) : ce_CT ce_rh mL_load [.ref a, .ref w] σ g (kl_h σ g a w S 1 V) ce_no := by
  refine ce_enterH (by decide) rfl (Nat.le_of_ble_eq_true rfl) (L := [some (.ref a), some (.ref w), none]) rfl ?_
  refine ce_aload_n dL_load_0 rfl ?_
  refine ce_iconst (v := nI 0) dL_load_1 (by decide) ?_
  refine ce_aload_n dL_load_2 rfl ?_
  refine ce_callVX dL_load_3 hX7_load kRL_17 hC rfl rfl hX.1 rfl (by decide) (Nat.le_of_ble_eq_true rfl) (by decide) (by decide) (fun v σ1 g1 h => ?_) (fun E σ1 g1 h => ?_)
  · exact h.elim
  · obtain ⟨⟨eE, n, hn, rfl⟩, k1, k2⟩ := h
    have eE : E = "java/lang/IllegalStateException" := eE
    subst eE
    refine ce_xcatch (E := "java/lang/IllegalStateException") [] 0 8 [] rfl (by decide) (fun _ hz => by cases hz) ⟨by decide, by decide⟩ (by decide) kRL_15 wc_IllegalStateException (fun q => ?_)
    have h9 : kl_h σ g a w S 1 V (some (.int (nI 1))) (n, σ.2) g1 := ⟨rfl, ⟨hn, rfl, rfl, fun _ _ => rfl⟩, fun q => absurd q (by decide), ⟨b, hX, k1⟩, k2⟩
    refine ce_astore_n dL_load_11 (Nat.le_of_ble_eq_true rfl) rfl ?_
    refine ce_iconst (v := nI 1) dL_load_12 (by decide) ?_
    exact ce_iret dL_load_13 rfl rfl (by decide) (by decide) h9
set_option maxHeartbeats 2000000 in
set_option maxRecDepth 20000 in
theorem h_member_ok {σ : ce_S} {g : ce_D} {a : Nat} {b : Nat → Nat} {S S2 : ks_S} {V : Int32} (w : Nat) (x0 : Int32) (x1 : Int32) (hX : ce_LX σ a b) (hw : ce_kd σ w = 14 ∧ ce_ln σ w = 1) (hC : ce_CT (ce_r 5) mX7_member [.ref a, .int x0, .int x1] σ g (kl_q σ g a S2 V) ce_no) : ce_CT ce_rh mL_member [.ref a, .int x0, .int x1, .ref w] σ g (kl_h σ g a w S2 0 V) ce_no := by
  refine ce_enterH (by decide) rfl (Nat.le_of_ble_eq_true rfl) (L := [some (.ref a), some (.int x0), some (.int x1), some (.ref w), none]) rfl ?_
  refine ce_aload_n dL_member_0 rfl ?_
  refine ce_iconst (v := nI 0) dL_member_1 (by decide) ?_
  refine ce_aload_n dL_member_2 rfl ?_
  refine ce_iload_n dL_member_3 rfl ?_
  refine ce_iload_n dL_member_4 rfl ?_
  refine ce_callVX dL_member_5 hX7_member kRL_24 hC rfl rfl hX.1 rfl (by decide) (Nat.le_of_ble_eq_true rfl) (by decide) (by decide) (fun v σ1 g1 h => ?_) (fun E σ1 g1 h => ?_)
  · obtain ⟨rfl, k1, k2, k3⟩ := h
    refine ce_i2l (v := V.toInt64) dL_member_8 rfl ?_
    refine ce_last (n := 0) (len := 1) dL_member_9 (by rw [k1.2.1]; exact hw.1) rfl (by rw [k1.2.2.1]; exact hw.2) (by decide) (by decide) ?_
    have h9 : kl_h σ g a w S2 0 V (some (.int (nI 0))) (ce_upL σ1 w 0 V.toInt64) g1 := ⟨rfl, ⟨k1.1, k1.2.1, k1.2.2.1, k1.2.2.2⟩, fun _ => by rw [ce_upL_eq]; exact if_pos rfl, k2, k3⟩
    refine ce_goto (tgt := 21) dL_member_10 (by decide) ?_
    refine ce_iconst (v := nI 0) dL_member_21 (by decide) ?_
    exact ce_iret dL_member_22 rfl rfl (by decide) (by decide) h9
  · exact h.elim
set_option maxHeartbeats 2000000 in
set_option maxRecDepth 20000 in
theorem h_member_n1 {σ : ce_S} {g : ce_D} {a : Nat} {b : Nat → Nat} {S S2 : ks_S} {V : Int32} (w : Nat) (x0 : Int32) (x1 : Int32) (hX : ce_LX σ a b) (hC : ce_CT (ce_rx 2) mX7_member [.ref a, .int x0, .int x1] σ g (fun _ _ _ => False) (kx_XR 1 σ g a b S)) : ce_CT ce_rh mL_member [.ref a, .int x0, .int x1, .ref w] σ g (kl_h σ g a w S 1 V) ce_no := by
  refine ce_enterH (by decide) rfl (Nat.le_of_ble_eq_true rfl) (L := [some (.ref a), some (.int x0), some (.int x1), some (.ref w), none]) rfl ?_
  refine ce_aload_n dL_member_0 rfl ?_
  refine ce_iconst (v := nI 0) dL_member_1 (by decide) ?_
  refine ce_aload_n dL_member_2 rfl ?_
  refine ce_iload_n dL_member_3 rfl ?_
  refine ce_iload_n dL_member_4 rfl ?_
  refine ce_callVX dL_member_5 hX7_member kRL_24 hC rfl rfl hX.1 rfl (by decide) (Nat.le_of_ble_eq_true rfl) (by decide) (by decide) (fun v σ1 g1 h => ?_) (fun E σ1 g1 h => ?_)
  · exact h.elim
  · obtain ⟨⟨eE, n, hn, rfl⟩, k1, k2⟩ := h
    have eE : E = "java/lang/IndexOutOfBoundsException" := eE
    subst eE
    refine ce_xcatch (E := "java/lang/IndexOutOfBoundsException") [] 0 10 [(0, 10, 17, 13)] rfl (by decide) (fun _ hz => by cases hz) ⟨by decide, by decide⟩ (by decide) kRL_28 wc_IndexOutOfBoundsException (fun q => ?_)
    have h9 : kl_h σ g a w S 1 V (some (.int (nI 1))) (n, σ.2) g1 := ⟨rfl, ⟨hn, rfl, rfl, fun _ _ => rfl⟩, fun q => absurd q (by decide), ⟨b, hX, k1⟩, k2⟩
    refine ce_astore dL_member_13 (Nat.le_of_ble_eq_true rfl) rfl ?_
    refine ce_iconst (v := nI 1) dL_member_15 (by decide) ?_
    exact ce_iret dL_member_16 rfl rfl (by decide) (by decide) h9
set_option maxHeartbeats 2000000 in
set_option maxRecDepth 20000 in
theorem h_member_n2 {σ : ce_S} {g : ce_D} {a : Nat} {b : Nat → Nat} {S S2 : ks_S} {V : Int32} (w : Nat) (x0 : Int32) (x1 : Int32) (hX : ce_LX σ a b) (hC : ce_CT (ce_rx 2) mX7_member [.ref a, .int x0, .int x1] σ g (fun _ _ _ => False) (kx_XR 2 σ g a b S)) : ce_CT ce_rh mL_member [.ref a, .int x0, .int x1, .ref w] σ g (kl_h σ g a w S 2 V) ce_no := by
  refine ce_enterH (by decide) rfl (Nat.le_of_ble_eq_true rfl) (L := [some (.ref a), some (.int x0), some (.int x1), some (.ref w), none]) rfl ?_
  refine ce_aload_n dL_member_0 rfl ?_
  refine ce_iconst (v := nI 0) dL_member_1 (by decide) ?_
  refine ce_aload_n dL_member_2 rfl ?_
  refine ce_iload_n dL_member_3 rfl ?_
  refine ce_iload_n dL_member_4 rfl ?_
  refine ce_callVX dL_member_5 hX7_member kRL_24 hC rfl rfl hX.1 rfl (by decide) (Nat.le_of_ble_eq_true rfl) (by decide) (by decide) (fun v σ1 g1 h => ?_) (fun E σ1 g1 h => ?_)
  · exact h.elim
  · obtain ⟨⟨eE, n, hn, rfl⟩, k1, k2⟩ := h
    have eE : E = "java/lang/IllegalArgumentException" := eE
    subst eE
    refine ce_xcatch (E := "java/lang/IllegalArgumentException") [(0, 10, 13, 28)] 0 10 [] rfl (by decide) (fun z hz => by
        have hz : z = (0, 10, 13, 28) := by simpa using hz
        rcases hz with rfl
        · exact ⟨by decide, "java/lang/IndexOutOfBoundsException", by decide, by decide, kRL_28⟩) ⟨by decide, by decide⟩ (by decide) kRL_13 wc_IllegalArgumentException (fun q => ?_)
    have h9 : kl_h σ g a w S 2 V (some (.int (nI 2))) (n, σ.2) g1 := ⟨rfl, ⟨hn, rfl, rfl, fun _ _ => rfl⟩, fun q => absurd q (by decide), ⟨b, hX, k1⟩, k2⟩
    refine ce_astore dL_member_17 (Nat.le_of_ble_eq_true rfl) rfl ?_
    refine ce_iconst (v := nI 2) dL_member_19 (by decide) ?_
    exact ce_iret dL_member_20 rfl rfl (by decide) (by decide) h9
set_option maxHeartbeats 2000000 in
set_option maxRecDepth 20000 in
theorem h_move_ok {σ : ce_S} {g : ce_D} {a : Nat} {b : Nat → Nat} {S S2 : ks_S} {V : Int32} (w : Nat) (x0 : Int32) (x1 : Int32) (x2 : Int32) (hX : ce_LX σ a b) (hw : ce_kd σ w = 14 ∧ ce_ln σ w = 1) (hC : ce_CT (ce_r 5) mX7_move [.ref a, .int x0, .int x1, .int x2] σ g (kl_q σ g a S2 V) ce_no) : ce_CT ce_rh mL_move [.ref a, .int x0, .int x1, .int x2, .ref w] σ g (kl_h σ g a w S2 0 V) ce_no := by
  refine ce_enterH (by decide) rfl (Nat.le_of_ble_eq_true rfl) (L := [some (.ref a), some (.int x0), some (.int x1), some (.int x2), some (.ref w), none]) rfl ?_
  refine ce_aload dL_move_0 rfl ?_
  refine ce_iconst (v := nI 0) dL_move_2 (by decide) ?_
  refine ce_aload_n dL_move_3 rfl ?_
  refine ce_iload_n dL_move_4 rfl ?_
  refine ce_iload_n dL_move_5 rfl ?_
  refine ce_iload_n dL_move_6 rfl ?_
  refine ce_callVX dL_move_7 hX7_move kRL_68 hC rfl rfl hX.1 rfl (by decide) (Nat.le_of_ble_eq_true rfl) (by decide) (by decide) (fun v σ1 g1 h => ?_) (fun E σ1 g1 h => ?_)
  · obtain ⟨rfl, k1, k2, k3⟩ := h
    refine ce_i2l (v := V.toInt64) dL_move_10 rfl ?_
    refine ce_last (n := 0) (len := 1) dL_move_11 (by rw [k1.2.1]; exact hw.1) rfl (by rw [k1.2.2.1]; exact hw.2) (by decide) (by decide) ?_
    have h9 : kl_h σ g a w S2 0 V (some (.int (nI 0))) (ce_upL σ1 w 0 V.toInt64) g1 := ⟨rfl, ⟨k1.1, k1.2.1, k1.2.2.1, k1.2.2.2⟩, fun _ => by rw [ce_upL_eq]; exact if_pos rfl, k2, k3⟩
    refine ce_goto (tgt := 27) dL_move_12 (by decide) ?_
    refine ce_iconst (v := nI 0) dL_move_27 (by decide) ?_
    exact ce_iret dL_move_28 rfl rfl (by decide) (by decide) h9
  · exact h.elim
set_option maxHeartbeats 2000000 in
set_option maxRecDepth 20000 in
theorem h_move_n1 {σ : ce_S} {g : ce_D} {a : Nat} {b : Nat → Nat} {S S2 : ks_S} {V : Int32} (w : Nat) (x0 : Int32) (x1 : Int32) (x2 : Int32) (hX : ce_LX σ a b) (hC : ce_CT (ce_rx 2) mX7_move [.ref a, .int x0, .int x1, .int x2] σ g (fun _ _ _ => False) (kx_XR 1 σ g a b S)) : ce_CT ce_rh mL_move [.ref a, .int x0, .int x1, .int x2, .ref w] σ g (kl_h σ g a w S 1 V) ce_no := by
  refine ce_enterH (by decide) rfl (Nat.le_of_ble_eq_true rfl) (L := [some (.ref a), some (.int x0), some (.int x1), some (.int x2), some (.ref w), none]) rfl ?_
  refine ce_aload dL_move_0 rfl ?_
  refine ce_iconst (v := nI 0) dL_move_2 (by decide) ?_
  refine ce_aload_n dL_move_3 rfl ?_
  refine ce_iload_n dL_move_4 rfl ?_
  refine ce_iload_n dL_move_5 rfl ?_
  refine ce_iload_n dL_move_6 rfl ?_
  refine ce_callVX dL_move_7 hX7_move kRL_68 hC rfl rfl hX.1 rfl (by decide) (Nat.le_of_ble_eq_true rfl) (by decide) (by decide) (fun v σ1 g1 h => ?_) (fun E σ1 g1 h => ?_)
  · exact h.elim
  · obtain ⟨⟨eE, n, hn, rfl⟩, k1, k2⟩ := h
    have eE : E = "java/lang/IndexOutOfBoundsException" := eE
    subst eE
    refine ce_xcatch (E := "java/lang/IndexOutOfBoundsException") [] 0 12 [(0, 12, 19, 13), (0, 12, 23, 15)] rfl (by decide) (fun _ hz => by cases hz) ⟨by decide, by decide⟩ (by decide) kRL_28 wc_IndexOutOfBoundsException (fun q => ?_)
    have h9 : kl_h σ g a w S 1 V (some (.int (nI 1))) (n, σ.2) g1 := ⟨rfl, ⟨hn, rfl, rfl, fun _ _ => rfl⟩, fun q => absurd q (by decide), ⟨b, hX, k1⟩, k2⟩
    refine ce_astore dL_move_15 (Nat.le_of_ble_eq_true rfl) rfl ?_
    refine ce_iconst (v := nI 1) dL_move_17 (by decide) ?_
    exact ce_iret dL_move_18 rfl rfl (by decide) (by decide) h9
set_option maxHeartbeats 2000000 in
set_option maxRecDepth 20000 in
theorem h_move_n2 {σ : ce_S} {g : ce_D} {a : Nat} {b : Nat → Nat} {S S2 : ks_S} {V : Int32} (w : Nat) (x0 : Int32) (x1 : Int32) (x2 : Int32) (hX : ce_LX σ a b) (hC : ce_CT (ce_rx 2) mX7_move [.ref a, .int x0, .int x1, .int x2] σ g (fun _ _ _ => False) (kx_XR 2 σ g a b S)) : ce_CT ce_rh mL_move [.ref a, .int x0, .int x1, .int x2, .ref w] σ g (kl_h σ g a w S 2 V) ce_no := by
  refine ce_enterH (by decide) rfl (Nat.le_of_ble_eq_true rfl) (L := [some (.ref a), some (.int x0), some (.int x1), some (.int x2), some (.ref w), none]) rfl ?_
  refine ce_aload dL_move_0 rfl ?_
  refine ce_iconst (v := nI 0) dL_move_2 (by decide) ?_
  refine ce_aload_n dL_move_3 rfl ?_
  refine ce_iload_n dL_move_4 rfl ?_
  refine ce_iload_n dL_move_5 rfl ?_
  refine ce_iload_n dL_move_6 rfl ?_
  refine ce_callVX dL_move_7 hX7_move kRL_68 hC rfl rfl hX.1 rfl (by decide) (Nat.le_of_ble_eq_true rfl) (by decide) (by decide) (fun v σ1 g1 h => ?_) (fun E σ1 g1 h => ?_)
  · exact h.elim
  · obtain ⟨⟨eE, n, hn, rfl⟩, k1, k2⟩ := h
    have eE : E = "java/lang/IllegalArgumentException" := eE
    subst eE
    refine ce_xcatch (E := "java/lang/IllegalArgumentException") [(0, 12, 15, 28)] 0 12 [(0, 12, 23, 15)] rfl (by decide) (fun z hz => by
        have hz : z = (0, 12, 15, 28) := by simpa using hz
        rcases hz with rfl
        · exact ⟨by decide, "java/lang/IndexOutOfBoundsException", by decide, by decide, kRL_28⟩) ⟨by decide, by decide⟩ (by decide) kRL_13 wc_IllegalArgumentException (fun q => ?_)
    have h9 : kl_h σ g a w S 2 V (some (.int (nI 2))) (n, σ.2) g1 := ⟨rfl, ⟨hn, rfl, rfl, fun _ _ => rfl⟩, fun q => absurd q (by decide), ⟨b, hX, k1⟩, k2⟩
    refine ce_astore dL_move_19 (Nat.le_of_ble_eq_true rfl) rfl ?_
    refine ce_iconst (v := nI 2) dL_move_21 (by decide) ?_
    exact ce_iret dL_move_22 rfl rfl (by decide) (by decide) h9
set_option maxHeartbeats 2000000 in
set_option maxRecDepth 20000 in
theorem h_move_n3 {σ : ce_S} {g : ce_D} {a : Nat} {b : Nat → Nat} {S S2 : ks_S} {V : Int32} (w : Nat) (x0 : Int32) (x1 : Int32) (x2 : Int32) (hX : ce_LX σ a b) (hC : ce_CT (ce_rx 2) mX7_move [.ref a, .int x0, .int x1, .int x2] σ g (fun _ _ _ => False) (kx_XR 3 σ g a b S)) : ce_CT ce_rh mL_move [.ref a, .int x0, .int x1, .int x2, .ref w] σ g (kl_h σ g a w S 3 V) ce_no := by
  refine ce_enterH (by decide) rfl (Nat.le_of_ble_eq_true rfl) (L := [some (.ref a), some (.int x0), some (.int x1), some (.int x2), some (.ref w), none]) rfl ?_
  refine ce_aload dL_move_0 rfl ?_
  refine ce_iconst (v := nI 0) dL_move_2 (by decide) ?_
  refine ce_aload_n dL_move_3 rfl ?_
  refine ce_iload_n dL_move_4 rfl ?_
  refine ce_iload_n dL_move_5 rfl ?_
  refine ce_iload_n dL_move_6 rfl ?_
  refine ce_callVX dL_move_7 hX7_move kRL_68 hC rfl rfl hX.1 rfl (by decide) (Nat.le_of_ble_eq_true rfl) (by decide) (by decide) (fun v σ1 g1 h => ?_) (fun E σ1 g1 h => ?_)
  · exact h.elim
  · obtain ⟨⟨eE, n, hn, rfl⟩, k1, k2⟩ := h
    have eE : E = "java/lang/IllegalStateException" := eE
    subst eE
    refine ce_xcatch (E := "java/lang/IllegalStateException") [(0, 12, 15, 28), (0, 12, 19, 13)] 0 12 [] rfl (by decide) (fun z hz => by
        have hz : z = (0, 12, 15, 28) ∨ z = (0, 12, 19, 13) := by simpa using hz
        rcases hz with rfl | rfl
        · exact ⟨by decide, "java/lang/IndexOutOfBoundsException", by decide, by decide, kRL_28⟩
        · exact ⟨by decide, "java/lang/IllegalArgumentException", by decide, by decide, kRL_13⟩) ⟨by decide, by decide⟩ (by decide) kRL_15 wc_IllegalStateException (fun q => ?_)
    have h9 : kl_h σ g a w S 3 V (some (.int (nI 3))) (n, σ.2) g1 := ⟨rfl, ⟨hn, rfl, rfl, fun _ _ => rfl⟩, fun q => absurd q (by decide), ⟨b, hX, k1⟩, k2⟩
    refine ce_astore dL_move_23 (Nat.le_of_ble_eq_true rfl) rfl ?_
    refine ce_iconst (v := nI 3) dL_move_25 (by decide) ?_
    exact ce_iret dL_move_26 rfl rfl (by decide) (by decide) h9
set_option maxHeartbeats 2000000 in
set_option maxRecDepth 20000 in
theorem h_order_ok {σ : ce_S} {g : ce_D} {a : Nat} {b : Nat → Nat} {S S2 : ks_S} {V : Int32} (w : Nat) (x0 : Int32) (x1 : Int32) (x2 : Int32) (hX : ce_LX σ a b) (hw : ce_kd σ w = 14 ∧ ce_ln σ w = 1) (hC : ce_CT (ce_r 5) mX7_order [.ref a, .int x0, .int x1, .int x2] σ g (kl_q σ g a S2 V) ce_no) : ce_CT ce_rh mL_order [.ref a, .int x0, .int x1, .int x2, .ref w] σ g (kl_h σ g a w S2 0 V) ce_no := by
  refine ce_enterH (by decide) rfl (Nat.le_of_ble_eq_true rfl) (L := [some (.ref a), some (.int x0), some (.int x1), some (.int x2), some (.ref w), none]) rfl ?_
  refine ce_aload dL_order_0 rfl ?_
  refine ce_iconst (v := nI 0) dL_order_2 (by decide) ?_
  refine ce_aload_n dL_order_3 rfl ?_
  refine ce_iload_n dL_order_4 rfl ?_
  refine ce_iload_n dL_order_5 rfl ?_
  refine ce_iload_n dL_order_6 rfl ?_
  refine ce_callVX dL_order_7 hX7_order kRL_49 hC rfl rfl hX.1 rfl (by decide) (Nat.le_of_ble_eq_true rfl) (by decide) (by decide) (fun v σ1 g1 h => ?_) (fun E σ1 g1 h => ?_)
  · obtain ⟨rfl, k1, k2, k3⟩ := h
    refine ce_i2l (v := V.toInt64) dL_order_10 rfl ?_
    refine ce_last (n := 0) (len := 1) dL_order_11 (by rw [k1.2.1]; exact hw.1) rfl (by rw [k1.2.2.1]; exact hw.2) (by decide) (by decide) ?_
    have h9 : kl_h σ g a w S2 0 V (some (.int (nI 0))) (ce_upL σ1 w 0 V.toInt64) g1 := ⟨rfl, ⟨k1.1, k1.2.1, k1.2.2.1, k1.2.2.2⟩, fun _ => by rw [ce_upL_eq]; exact if_pos rfl, k2, k3⟩
    refine ce_goto (tgt := 27) dL_order_12 (by decide) ?_
    refine ce_iconst (v := nI 0) dL_order_27 (by decide) ?_
    exact ce_iret dL_order_28 rfl rfl (by decide) (by decide) h9
  · exact h.elim
set_option maxHeartbeats 2000000 in
set_option maxRecDepth 20000 in
theorem h_order_n1 {σ : ce_S} {g : ce_D} {a : Nat} {b : Nat → Nat} {S S2 : ks_S} {V : Int32} (w : Nat) (x0 : Int32) (x1 : Int32) (x2 : Int32) (hX : ce_LX σ a b) (hC : ce_CT (ce_rx 2) mX7_order [.ref a, .int x0, .int x1, .int x2] σ g (fun _ _ _ => False) (kx_XR 1 σ g a b S)) : ce_CT ce_rh mL_order [.ref a, .int x0, .int x1, .int x2, .ref w] σ g (kl_h σ g a w S 1 V) ce_no := by
  refine ce_enterH (by decide) rfl (Nat.le_of_ble_eq_true rfl) (L := [some (.ref a), some (.int x0), some (.int x1), some (.int x2), some (.ref w), none]) rfl ?_
  refine ce_aload dL_order_0 rfl ?_
  refine ce_iconst (v := nI 0) dL_order_2 (by decide) ?_
  refine ce_aload_n dL_order_3 rfl ?_
  refine ce_iload_n dL_order_4 rfl ?_
  refine ce_iload_n dL_order_5 rfl ?_
  refine ce_iload_n dL_order_6 rfl ?_
  refine ce_callVX dL_order_7 hX7_order kRL_49 hC rfl rfl hX.1 rfl (by decide) (Nat.le_of_ble_eq_true rfl) (by decide) (by decide) (fun v σ1 g1 h => ?_) (fun E σ1 g1 h => ?_)
  · exact h.elim
  · obtain ⟨⟨eE, n, hn, rfl⟩, k1, k2⟩ := h
    have eE : E = "java/lang/IndexOutOfBoundsException" := eE
    subst eE
    refine ce_xcatch (E := "java/lang/IndexOutOfBoundsException") [] 0 12 [(0, 12, 19, 13), (0, 12, 23, 15)] rfl (by decide) (fun _ hz => by cases hz) ⟨by decide, by decide⟩ (by decide) kRL_28 wc_IndexOutOfBoundsException (fun q => ?_)
    have h9 : kl_h σ g a w S 1 V (some (.int (nI 1))) (n, σ.2) g1 := ⟨rfl, ⟨hn, rfl, rfl, fun _ _ => rfl⟩, fun q => absurd q (by decide), ⟨b, hX, k1⟩, k2⟩
    refine ce_astore dL_order_15 (Nat.le_of_ble_eq_true rfl) rfl ?_
    refine ce_iconst (v := nI 1) dL_order_17 (by decide) ?_
    exact ce_iret dL_order_18 rfl rfl (by decide) (by decide) h9
set_option maxHeartbeats 2000000 in
set_option maxRecDepth 20000 in
theorem h_order_n2 {σ : ce_S} {g : ce_D} {a : Nat} {b : Nat → Nat} {S S2 : ks_S} {V : Int32} (w : Nat) (x0 : Int32) (x1 : Int32) (x2 : Int32) (hX : ce_LX σ a b) (hC : ce_CT (ce_rx 2) mX7_order [.ref a, .int x0, .int x1, .int x2] σ g (fun _ _ _ => False) (kx_XR 2 σ g a b S)) : ce_CT ce_rh mL_order [.ref a, .int x0, .int x1, .int x2, .ref w] σ g (kl_h σ g a w S 2 V) ce_no := by
  refine ce_enterH (by decide) rfl (Nat.le_of_ble_eq_true rfl) (L := [some (.ref a), some (.int x0), some (.int x1), some (.int x2), some (.ref w), none]) rfl ?_
  refine ce_aload dL_order_0 rfl ?_
  refine ce_iconst (v := nI 0) dL_order_2 (by decide) ?_
  refine ce_aload_n dL_order_3 rfl ?_
  refine ce_iload_n dL_order_4 rfl ?_
  refine ce_iload_n dL_order_5 rfl ?_
  refine ce_iload_n dL_order_6 rfl ?_
  refine ce_callVX dL_order_7 hX7_order kRL_49 hC rfl rfl hX.1 rfl (by decide) (Nat.le_of_ble_eq_true rfl) (by decide) (by decide) (fun v σ1 g1 h => ?_) (fun E σ1 g1 h => ?_)
  · exact h.elim
  · obtain ⟨⟨eE, n, hn, rfl⟩, k1, k2⟩ := h
    have eE : E = "java/lang/IllegalArgumentException" := eE
    subst eE
    refine ce_xcatch (E := "java/lang/IllegalArgumentException") [(0, 12, 15, 28)] 0 12 [(0, 12, 23, 15)] rfl (by decide) (fun z hz => by
        have hz : z = (0, 12, 15, 28) := by simpa using hz
        rcases hz with rfl
        · exact ⟨by decide, "java/lang/IndexOutOfBoundsException", by decide, by decide, kRL_28⟩) ⟨by decide, by decide⟩ (by decide) kRL_13 wc_IllegalArgumentException (fun q => ?_)
    have h9 : kl_h σ g a w S 2 V (some (.int (nI 2))) (n, σ.2) g1 := ⟨rfl, ⟨hn, rfl, rfl, fun _ _ => rfl⟩, fun q => absurd q (by decide), ⟨b, hX, k1⟩, k2⟩
    refine ce_astore dL_order_19 (Nat.le_of_ble_eq_true rfl) rfl ?_
    refine ce_iconst (v := nI 2) dL_order_21 (by decide) ?_
    exact ce_iret dL_order_22 rfl rfl (by decide) (by decide) h9
set_option maxHeartbeats 2000000 in
set_option maxRecDepth 20000 in
theorem h_order_n3 {σ : ce_S} {g : ce_D} {a : Nat} {b : Nat → Nat} {S S2 : ks_S} {V : Int32} (w : Nat) (x0 : Int32) (x1 : Int32) (x2 : Int32) (hX : ce_LX σ a b) (hC : ce_CT (ce_rx 2) mX7_order [.ref a, .int x0, .int x1, .int x2] σ g (fun _ _ _ => False) (kx_XR 3 σ g a b S)) : ce_CT ce_rh mL_order [.ref a, .int x0, .int x1, .int x2, .ref w] σ g (kl_h σ g a w S 3 V) ce_no := by
  refine ce_enterH (by decide) rfl (Nat.le_of_ble_eq_true rfl) (L := [some (.ref a), some (.int x0), some (.int x1), some (.int x2), some (.ref w), none]) rfl ?_
  refine ce_aload dL_order_0 rfl ?_
  refine ce_iconst (v := nI 0) dL_order_2 (by decide) ?_
  refine ce_aload_n dL_order_3 rfl ?_
  refine ce_iload_n dL_order_4 rfl ?_
  refine ce_iload_n dL_order_5 rfl ?_
  refine ce_iload_n dL_order_6 rfl ?_
  refine ce_callVX dL_order_7 hX7_order kRL_49 hC rfl rfl hX.1 rfl (by decide) (Nat.le_of_ble_eq_true rfl) (by decide) (by decide) (fun v σ1 g1 h => ?_) (fun E σ1 g1 h => ?_)
  · exact h.elim
  · obtain ⟨⟨eE, n, hn, rfl⟩, k1, k2⟩ := h
    have eE : E = "java/lang/IllegalStateException" := eE
    subst eE
    refine ce_xcatch (E := "java/lang/IllegalStateException") [(0, 12, 15, 28), (0, 12, 19, 13)] 0 12 [] rfl (by decide) (fun z hz => by
        have hz : z = (0, 12, 15, 28) ∨ z = (0, 12, 19, 13) := by simpa using hz
        rcases hz with rfl | rfl
        · exact ⟨by decide, "java/lang/IndexOutOfBoundsException", by decide, by decide, kRL_28⟩
        · exact ⟨by decide, "java/lang/IllegalArgumentException", by decide, by decide, kRL_13⟩) ⟨by decide, by decide⟩ (by decide) kRL_15 wc_IllegalStateException (fun q => ?_)
    have h9 : kl_h σ g a w S 3 V (some (.int (nI 3))) (n, σ.2) g1 := ⟨rfl, ⟨hn, rfl, rfl, fun _ _ => rfl⟩, fun q => absurd q (by decide), ⟨b, hX, k1⟩, k2⟩
    refine ce_astore dL_order_23 (Nat.le_of_ble_eq_true rfl) rfl ?_
    refine ce_iconst (v := nI 3) dL_order_25 (by decide) ?_
    exact ce_iret dL_order_26 rfl rfl (by decide) (by decide) h9
set_option maxHeartbeats 2000000 in
set_option maxRecDepth 20000 in
theorem h_pay_ok {σ : ce_S} {g : ce_D} {a : Nat} {b : Nat → Nat} {S S2 : ks_S} {V : Int32} (w : Nat) (x0 : Int32) (hX : ce_LX σ a b) (hw : ce_kd σ w = 14 ∧ ce_ln σ w = 1) (hC : ce_CT (ce_r 5) mX7_pay [.ref a, .int x0] σ g (kl_q σ g a S2 V) ce_no) : ce_CT ce_rh mL_pay [.ref a, .int x0, .ref w] σ g (kl_h σ g a w S2 0 V) ce_no := by
  refine ce_enterH (by decide) rfl (Nat.le_of_ble_eq_true rfl) (L := [some (.ref a), some (.int x0), some (.ref w), none]) rfl ?_
  refine ce_aload_n dL_pay_0 rfl ?_
  refine ce_iconst (v := nI 0) dL_pay_1 (by decide) ?_
  refine ce_aload_n dL_pay_2 rfl ?_
  refine ce_iload_n dL_pay_3 rfl ?_
  refine ce_callVX dL_pay_4 hX7_pay kRL_71 hC rfl rfl hX.1 rfl (by decide) (Nat.le_of_ble_eq_true rfl) (by decide) (by decide) (fun v σ1 g1 h => ?_) (fun E σ1 g1 h => ?_)
  · obtain ⟨rfl, k1, k2, k3⟩ := h
    refine ce_i2l (v := V.toInt64) dL_pay_7 rfl ?_
    refine ce_last (n := 0) (len := 1) dL_pay_8 (by rw [k1.2.1]; exact hw.1) rfl (by rw [k1.2.2.1]; exact hw.2) (by decide) (by decide) ?_
    have h9 : kl_h σ g a w S2 0 V (some (.int (nI 0))) (ce_upL σ1 w 0 V.toInt64) g1 := ⟨rfl, ⟨k1.1, k1.2.1, k1.2.2.1, k1.2.2.2⟩, fun _ => by rw [ce_upL_eq]; exact if_pos rfl, k2, k3⟩
    refine ce_goto (tgt := 15) dL_pay_9 (by decide) ?_
    refine ce_iconst (v := nI 0) dL_pay_15 (by decide) ?_
    exact ce_iret dL_pay_16 rfl rfl (by decide) (by decide) h9
  · exact h.elim
set_option maxHeartbeats 2000000 in
set_option maxRecDepth 20000 in
theorem h_pay_n1 {σ : ce_S} {g : ce_D} {a : Nat} {b : Nat → Nat} {S S2 : ks_S} {V : Int32} (w : Nat) (x0 : Int32) (hX : ce_LX σ a b) (hC : ce_CT (ce_rx 2) mX7_pay [.ref a, .int x0] σ g (fun _ _ _ => False) (kx_XR 1 σ g a b S)) : ce_CT ce_rh mL_pay [.ref a, .int x0, .ref w] σ g (kl_h σ g a w S 1 V) ce_no := by
  refine ce_enterH (by decide) rfl (Nat.le_of_ble_eq_true rfl) (L := [some (.ref a), some (.int x0), some (.ref w), none]) rfl ?_
  refine ce_aload_n dL_pay_0 rfl ?_
  refine ce_iconst (v := nI 0) dL_pay_1 (by decide) ?_
  refine ce_aload_n dL_pay_2 rfl ?_
  refine ce_iload_n dL_pay_3 rfl ?_
  refine ce_callVX dL_pay_4 hX7_pay kRL_71 hC rfl rfl hX.1 rfl (by decide) (Nat.le_of_ble_eq_true rfl) (by decide) (by decide) (fun v σ1 g1 h => ?_) (fun E σ1 g1 h => ?_)
  · exact h.elim
  · obtain ⟨⟨eE, n, hn, rfl⟩, k1, k2⟩ := h
    have eE : E = "java/lang/IndexOutOfBoundsException" := eE
    subst eE
    refine ce_xcatch (E := "java/lang/IndexOutOfBoundsException") [] 0 9 [] rfl (by decide) (fun _ hz => by cases hz) ⟨by decide, by decide⟩ (by decide) kRL_28 wc_IndexOutOfBoundsException (fun q => ?_)
    have h9 : kl_h σ g a w S 1 V (some (.int (nI 1))) (n, σ.2) g1 := ⟨rfl, ⟨hn, rfl, rfl, fun _ _ => rfl⟩, fun q => absurd q (by decide), ⟨b, hX, k1⟩, k2⟩
    refine ce_astore_n dL_pay_12 (Nat.le_of_ble_eq_true rfl) rfl ?_
    refine ce_iconst (v := nI 1) dL_pay_13 (by decide) ?_
    exact ce_iret dL_pay_14 rfl rfl (by decide) (by decide) h9
set_option maxHeartbeats 2000000 in
set_option maxRecDepth 20000 in
theorem h_restore_ok {σ : ce_S} {g : ce_D} {a : Nat} {b : Nat → Nat} {S S2 : ks_S} {V : Int32} (w : Nat) (x0 : Int32) (hX : ce_LX σ a b) (hw : ce_kd σ w = 14 ∧ ce_ln σ w = 1) (hC : ce_CT (ce_r 5) mX7_restore [.ref a, .int x0] σ g (kl_q σ g a S2 V) ce_no) : ce_CT ce_rh mL_restore [.ref a, .int x0, .ref w] σ g (kl_h σ g a w S2 0 V) ce_no := by
  refine ce_enterH (by decide) rfl (Nat.le_of_ble_eq_true rfl) (L := [some (.ref a), some (.int x0), some (.ref w), none]) rfl ?_
  refine ce_aload_n dL_restore_0 rfl ?_
  refine ce_iconst (v := nI 0) dL_restore_1 (by decide) ?_
  refine ce_aload_n dL_restore_2 rfl ?_
  refine ce_iload_n dL_restore_3 rfl ?_
  refine ce_callVX dL_restore_4 hX7_restore kRL_97 hC rfl rfl hX.1 rfl (by decide) (Nat.le_of_ble_eq_true rfl) (by decide) (by decide) (fun v σ1 g1 h => ?_) (fun E σ1 g1 h => ?_)
  · obtain ⟨rfl, k1, k2, k3⟩ := h
    refine ce_i2l (v := V.toInt64) dL_restore_7 rfl ?_
    refine ce_last (n := 0) (len := 1) dL_restore_8 (by rw [k1.2.1]; exact hw.1) rfl (by rw [k1.2.2.1]; exact hw.2) (by decide) (by decide) ?_
    have h9 : kl_h σ g a w S2 0 V (some (.int (nI 0))) (ce_upL σ1 w 0 V.toInt64) g1 := ⟨rfl, ⟨k1.1, k1.2.1, k1.2.2.1, k1.2.2.2⟩, fun _ => by rw [ce_upL_eq]; exact if_pos rfl, k2, k3⟩
    refine ce_goto (tgt := 18) dL_restore_9 (by decide) ?_
    refine ce_iconst (v := nI 0) dL_restore_18 (by decide) ?_
    exact ce_iret dL_restore_19 rfl rfl (by decide) (by decide) h9
  · exact h.elim
set_option maxHeartbeats 2000000 in
set_option maxRecDepth 20000 in
theorem h_restore_n1 {σ : ce_S} {g : ce_D} {a : Nat} {b : Nat → Nat} {S S2 : ks_S} {V : Int32} (w : Nat) (x0 : Int32) (hX : ce_LX σ a b) (hC : ce_CT (ce_rx 2) mX7_restore [.ref a, .int x0] σ g (fun _ _ _ => False) (kx_XR 1 σ g a b S)) : ce_CT ce_rh mL_restore [.ref a, .int x0, .ref w] σ g (kl_h σ g a w S 1 V) ce_no := by
  refine ce_enterH (by decide) rfl (Nat.le_of_ble_eq_true rfl) (L := [some (.ref a), some (.int x0), some (.ref w), none]) rfl ?_
  refine ce_aload_n dL_restore_0 rfl ?_
  refine ce_iconst (v := nI 0) dL_restore_1 (by decide) ?_
  refine ce_aload_n dL_restore_2 rfl ?_
  refine ce_iload_n dL_restore_3 rfl ?_
  refine ce_callVX dL_restore_4 hX7_restore kRL_97 hC rfl rfl hX.1 rfl (by decide) (Nat.le_of_ble_eq_true rfl) (by decide) (by decide) (fun v σ1 g1 h => ?_) (fun E σ1 g1 h => ?_)
  · exact h.elim
  · obtain ⟨⟨eE, n, hn, rfl⟩, k1, k2⟩ := h
    have eE : E = "java/lang/IndexOutOfBoundsException" := eE
    subst eE
    refine ce_xcatch (E := "java/lang/IndexOutOfBoundsException") [] 0 9 [(0, 9, 15, 15)] rfl (by decide) (fun _ hz => by cases hz) ⟨by decide, by decide⟩ (by decide) kRL_28 wc_IndexOutOfBoundsException (fun q => ?_)
    have h9 : kl_h σ g a w S 1 V (some (.int (nI 1))) (n, σ.2) g1 := ⟨rfl, ⟨hn, rfl, rfl, fun _ _ => rfl⟩, fun q => absurd q (by decide), ⟨b, hX, k1⟩, k2⟩
    refine ce_astore_n dL_restore_12 (Nat.le_of_ble_eq_true rfl) rfl ?_
    refine ce_iconst (v := nI 1) dL_restore_13 (by decide) ?_
    exact ce_iret dL_restore_14 rfl rfl (by decide) (by decide) h9
set_option maxHeartbeats 2000000 in
set_option maxRecDepth 20000 in
theorem h_restore_n3 {σ : ce_S} {g : ce_D} {a : Nat} {b : Nat → Nat} {S S2 : ks_S} {V : Int32} (w : Nat) (x0 : Int32) (hX : ce_LX σ a b) (hC : ce_CT (ce_rx 2) mX7_restore [.ref a, .int x0] σ g (fun _ _ _ => False) (kx_XR 3 σ g a b S)) : ce_CT ce_rh mL_restore [.ref a, .int x0, .ref w] σ g (kl_h σ g a w S 2 V) ce_no := by
  refine ce_enterH (by decide) rfl (Nat.le_of_ble_eq_true rfl) (L := [some (.ref a), some (.int x0), some (.ref w), none]) rfl ?_
  refine ce_aload_n dL_restore_0 rfl ?_
  refine ce_iconst (v := nI 0) dL_restore_1 (by decide) ?_
  refine ce_aload_n dL_restore_2 rfl ?_
  refine ce_iload_n dL_restore_3 rfl ?_
  refine ce_callVX dL_restore_4 hX7_restore kRL_97 hC rfl rfl hX.1 rfl (by decide) (Nat.le_of_ble_eq_true rfl) (by decide) (by decide) (fun v σ1 g1 h => ?_) (fun E σ1 g1 h => ?_)
  · exact h.elim
  · obtain ⟨⟨eE, n, hn, rfl⟩, k1, k2⟩ := h
    have eE : E = "java/lang/IllegalStateException" := eE
    subst eE
    refine ce_xcatch (E := "java/lang/IllegalStateException") [(0, 9, 12, 28)] 0 9 [] rfl (by decide) (fun z hz => by
        have hz : z = (0, 9, 12, 28) := by simpa using hz
        rcases hz with rfl
        · exact ⟨by decide, "java/lang/IndexOutOfBoundsException", by decide, by decide, kRL_28⟩) ⟨by decide, by decide⟩ (by decide) kRL_15 wc_IllegalStateException (fun q => ?_)
    have h9 : kl_h σ g a w S 2 V (some (.int (nI 2))) (n, σ.2) g1 := ⟨rfl, ⟨hn, rfl, rfl, fun _ _ => rfl⟩, fun q => absurd q (by decide), ⟨b, hX, k1⟩, k2⟩
    refine ce_astore_n dL_restore_15 (Nat.le_of_ble_eq_true rfl) rfl ?_
    refine ce_iconst (v := nI 2) dL_restore_16 (by decide) ?_
    exact ce_iret dL_restore_17 rfl rfl (by decide) (by decide) h9
set_option maxHeartbeats 2000000 in
set_option maxRecDepth 20000 in
theorem h_roomFor_ok {σ : ce_S} {g : ce_D} {a : Nat} {b : Nat → Nat} {S S2 : ks_S} {V : Int32} (w : Nat) (x0 : Int32) (hX : ce_LX σ a b) (hw : ce_kd σ w = 14 ∧ ce_ln σ w = 1) (hC : ce_CT (ce_r 5) mX7_roomFor [.ref a, .int x0] σ g (kl_q σ g a S2 V) ce_no) : ce_CT ce_rh mL_roomFor [.ref a, .int x0, .ref w] σ g (kl_h σ g a w S2 0 V) ce_no := by
  refine ce_enterH (by decide) rfl (Nat.le_of_ble_eq_true rfl) (L := [some (.ref a), some (.int x0), some (.ref w), none]) rfl ?_
  refine ce_aload_n dL_roomFor_0 rfl ?_
  refine ce_iconst (v := nI 0) dL_roomFor_1 (by decide) ?_
  refine ce_aload_n dL_roomFor_2 rfl ?_
  refine ce_iload_n dL_roomFor_3 rfl ?_
  refine ce_callVX dL_roomFor_4 hX7_roomFor kRL_80 hC rfl rfl hX.1 rfl (by decide) (Nat.le_of_ble_eq_true rfl) (by decide) (by decide) (fun v σ1 g1 h => ?_) (fun E σ1 g1 h => ?_)
  · obtain ⟨rfl, k1, k2, k3⟩ := h
    refine ce_i2l (v := V.toInt64) dL_roomFor_7 rfl ?_
    refine ce_last (n := 0) (len := 1) dL_roomFor_8 (by rw [k1.2.1]; exact hw.1) rfl (by rw [k1.2.2.1]; exact hw.2) (by decide) (by decide) ?_
    have h9 : kl_h σ g a w S2 0 V (some (.int (nI 0))) (ce_upL σ1 w 0 V.toInt64) g1 := ⟨rfl, ⟨k1.1, k1.2.1, k1.2.2.1, k1.2.2.2⟩, fun _ => by rw [ce_upL_eq]; exact if_pos rfl, k2, k3⟩
    refine ce_goto (tgt := 15) dL_roomFor_9 (by decide) ?_
    refine ce_iconst (v := nI 0) dL_roomFor_15 (by decide) ?_
    exact ce_iret dL_roomFor_16 rfl rfl (by decide) (by decide) h9
  · exact h.elim
set_option maxHeartbeats 2000000 in
set_option maxRecDepth 20000 in
theorem h_roomFor_n1 {σ : ce_S} {g : ce_D} {a : Nat} {b : Nat → Nat} {S S2 : ks_S} {V : Int32} (w : Nat) (x0 : Int32) (hX : ce_LX σ a b) (hC : ce_CT (ce_rx 2) mX7_roomFor [.ref a, .int x0] σ g (fun _ _ _ => False) (kx_XR 1 σ g a b S)) : ce_CT ce_rh mL_roomFor [.ref a, .int x0, .ref w] σ g (kl_h σ g a w S 1 V) ce_no := by
  refine ce_enterH (by decide) rfl (Nat.le_of_ble_eq_true rfl) (L := [some (.ref a), some (.int x0), some (.ref w), none]) rfl ?_
  refine ce_aload_n dL_roomFor_0 rfl ?_
  refine ce_iconst (v := nI 0) dL_roomFor_1 (by decide) ?_
  refine ce_aload_n dL_roomFor_2 rfl ?_
  refine ce_iload_n dL_roomFor_3 rfl ?_
  refine ce_callVX dL_roomFor_4 hX7_roomFor kRL_80 hC rfl rfl hX.1 rfl (by decide) (Nat.le_of_ble_eq_true rfl) (by decide) (by decide) (fun v σ1 g1 h => ?_) (fun E σ1 g1 h => ?_)
  · exact h.elim
  · obtain ⟨⟨eE, n, hn, rfl⟩, k1, k2⟩ := h
    have eE : E = "java/lang/IndexOutOfBoundsException" := eE
    subst eE
    refine ce_xcatch (E := "java/lang/IndexOutOfBoundsException") [] 0 9 [] rfl (by decide) (fun _ hz => by cases hz) ⟨by decide, by decide⟩ (by decide) kRL_28 wc_IndexOutOfBoundsException (fun q => ?_)
    have h9 : kl_h σ g a w S 1 V (some (.int (nI 1))) (n, σ.2) g1 := ⟨rfl, ⟨hn, rfl, rfl, fun _ _ => rfl⟩, fun q => absurd q (by decide), ⟨b, hX, k1⟩, k2⟩
    refine ce_astore_n dL_roomFor_12 (Nat.le_of_ble_eq_true rfl) rfl ?_
    refine ce_iconst (v := nI 1) dL_roomFor_13 (by decide) ?_
    exact ce_iret dL_roomFor_14 rfl rfl (by decide) (by decide) h9
set_option maxHeartbeats 2000000 in
set_option maxRecDepth 20000 in
theorem h_runScript_ok {σ : ce_S} {g : ce_D} {a : Nat} {b : Nat → Nat} {S S2 : ks_S} {V : Int32} (w : Nat) (x0 : Int32) (t1 : Int64) (hX : ce_LX σ a b) (hw : ce_kd σ w = 14 ∧ ce_ln σ w = 1) (hC : ce_CT (ce_r 6) mX7_runScript [.ref a, .int x0, .long t1] σ g (kl_q σ g a S2 V) ce_no) : ce_CT ce_rh mL_runScript [.ref a, .int x0, .long t1, .ref w] σ g (kl_h σ g a w S2 0 V) ce_no := by
  refine ce_enterH (by decide) rfl (Nat.le_of_ble_eq_true rfl) (L := [some (.ref a), some (.int x0), some (.long t1), none, some (.ref w), none]) rfl ?_
  refine ce_aload dL_runScript_0 rfl ?_
  refine ce_iconst (v := nI 0) dL_runScript_2 (by decide) ?_
  refine ce_aload_n dL_runScript_3 rfl ?_
  refine ce_iload_n dL_runScript_4 rfl ?_
  refine ce_lload_n dL_runScript_5 rfl ?_
  refine ce_callVX dL_runScript_6 hX7_runScript kRL_86 hC rfl rfl hX.1 rfl (by decide) (Nat.le_of_ble_eq_true rfl) (by decide) (by decide) (fun v σ1 g1 h => ?_) (fun E σ1 g1 h => ?_)
  · obtain ⟨rfl, k1, k2, k3⟩ := h
    refine ce_i2l (v := V.toInt64) dL_runScript_9 rfl ?_
    refine ce_last (n := 0) (len := 1) dL_runScript_10 (by rw [k1.2.1]; exact hw.1) rfl (by rw [k1.2.2.1]; exact hw.2) (by decide) (by decide) ?_
    have h9 : kl_h σ g a w S2 0 V (some (.int (nI 0))) (ce_upL σ1 w 0 V.toInt64) g1 := ⟨rfl, ⟨k1.1, k1.2.1, k1.2.2.1, k1.2.2.2⟩, fun _ => by rw [ce_upL_eq]; exact if_pos rfl, k2, k3⟩
    refine ce_goto (tgt := 18) dL_runScript_11 (by decide) ?_
    refine ce_iconst (v := nI 0) dL_runScript_18 (by decide) ?_
    exact ce_iret dL_runScript_19 rfl rfl (by decide) (by decide) h9
  · exact h.elim
set_option maxHeartbeats 2000000 in
set_option maxRecDepth 20000 in
theorem h_runScript_n2 {σ : ce_S} {g : ce_D} {a : Nat} {b : Nat → Nat} {S S2 : ks_S} {V : Int32} (w : Nat) (x0 : Int32) (t1 : Int64) (hX : ce_LX σ a b) (hC : ce_CT (ce_rx 2) mX7_runScript [.ref a, .int x0, .long t1] σ g (fun _ _ _ => False) (kx_XR 2 σ g a b S)) : ce_CT ce_rh mL_runScript [.ref a, .int x0, .long t1, .ref w] σ g (kl_h σ g a w S 1 V) ce_no := by
  refine ce_enterH (by decide) rfl (Nat.le_of_ble_eq_true rfl) (L := [some (.ref a), some (.int x0), some (.long t1), none, some (.ref w), none]) rfl ?_
  refine ce_aload dL_runScript_0 rfl ?_
  refine ce_iconst (v := nI 0) dL_runScript_2 (by decide) ?_
  refine ce_aload_n dL_runScript_3 rfl ?_
  refine ce_iload_n dL_runScript_4 rfl ?_
  refine ce_lload_n dL_runScript_5 rfl ?_
  refine ce_callVX dL_runScript_6 hX7_runScript kRL_86 hC rfl rfl hX.1 rfl (by decide) (Nat.le_of_ble_eq_true rfl) (by decide) (by decide) (fun v σ1 g1 h => ?_) (fun E σ1 g1 h => ?_)
  · exact h.elim
  · obtain ⟨⟨eE, n, hn, rfl⟩, k1, k2⟩ := h
    have eE : E = "java/lang/IllegalArgumentException" := eE
    subst eE
    refine ce_xcatch (E := "java/lang/IllegalArgumentException") [] 0 11 [] rfl (by decide) (fun _ hz => by cases hz) ⟨by decide, by decide⟩ (by decide) kRL_13 wc_IllegalArgumentException (fun q => ?_)
    have h9 : kl_h σ g a w S 1 V (some (.int (nI 1))) (n, σ.2) g1 := ⟨rfl, ⟨hn, rfl, rfl, fun _ _ => rfl⟩, fun q => absurd q (by decide), ⟨b, hX, k1⟩, k2⟩
    refine ce_astore dL_runScript_14 (Nat.le_of_ble_eq_true rfl) rfl ?_
    refine ce_iconst (v := nI 1) dL_runScript_16 (by decide) ?_
    exact ce_iret dL_runScript_17 rfl rfl (by decide) (by decide) h9
set_option maxHeartbeats 2000000 in
set_option maxRecDepth 20000 in
theorem h_save_ok {σ : ce_S} {g : ce_D} {a : Nat} {b : Nat → Nat} {S S2 : ks_S} {V : Int32} (w : Nat) (x0 : Int32) (hX : ce_LX σ a b) (hw : ce_kd σ w = 14 ∧ ce_ln σ w = 1) (hC : ce_CT (ce_r 5) mX7_save [.ref a, .int x0] σ g (kl_q σ g a S2 V) ce_no) : ce_CT ce_rh mL_save [.ref a, .int x0, .ref w] σ g (kl_h σ g a w S2 0 V) ce_no := by
  refine ce_enterH (by decide) rfl (Nat.le_of_ble_eq_true rfl) (L := [some (.ref a), some (.int x0), some (.ref w), none]) rfl ?_
  refine ce_aload_n dL_save_0 rfl ?_
  refine ce_iconst (v := nI 0) dL_save_1 (by decide) ?_
  refine ce_aload_n dL_save_2 rfl ?_
  refine ce_iload_n dL_save_3 rfl ?_
  refine ce_callVX dL_save_4 hX7_save kRL_94 hC rfl rfl hX.1 rfl (by decide) (Nat.le_of_ble_eq_true rfl) (by decide) (by decide) (fun v σ1 g1 h => ?_) (fun E σ1 g1 h => ?_)
  · obtain ⟨rfl, k1, k2, k3⟩ := h
    refine ce_i2l (v := V.toInt64) dL_save_7 rfl ?_
    refine ce_last (n := 0) (len := 1) dL_save_8 (by rw [k1.2.1]; exact hw.1) rfl (by rw [k1.2.2.1]; exact hw.2) (by decide) (by decide) ?_
    have h9 : kl_h σ g a w S2 0 V (some (.int (nI 0))) (ce_upL σ1 w 0 V.toInt64) g1 := ⟨rfl, ⟨k1.1, k1.2.1, k1.2.2.1, k1.2.2.2⟩, fun _ => by rw [ce_upL_eq]; exact if_pos rfl, k2, k3⟩
    refine ce_goto (tgt := 15) dL_save_9 (by decide) ?_
    refine ce_iconst (v := nI 0) dL_save_15 (by decide) ?_
    exact ce_iret dL_save_16 rfl rfl (by decide) (by decide) h9
  · exact h.elim
set_option maxHeartbeats 2000000 in
set_option maxRecDepth 20000 in
theorem h_save_n1 {σ : ce_S} {g : ce_D} {a : Nat} {b : Nat → Nat} {S S2 : ks_S} {V : Int32} (w : Nat) (x0 : Int32) (hX : ce_LX σ a b) (hC : ce_CT (ce_rx 2) mX7_save [.ref a, .int x0] σ g (fun _ _ _ => False) (kx_XR 1 σ g a b S)) : ce_CT ce_rh mL_save [.ref a, .int x0, .ref w] σ g (kl_h σ g a w S 1 V) ce_no := by
  refine ce_enterH (by decide) rfl (Nat.le_of_ble_eq_true rfl) (L := [some (.ref a), some (.int x0), some (.ref w), none]) rfl ?_
  refine ce_aload_n dL_save_0 rfl ?_
  refine ce_iconst (v := nI 0) dL_save_1 (by decide) ?_
  refine ce_aload_n dL_save_2 rfl ?_
  refine ce_iload_n dL_save_3 rfl ?_
  refine ce_callVX dL_save_4 hX7_save kRL_94 hC rfl rfl hX.1 rfl (by decide) (Nat.le_of_ble_eq_true rfl) (by decide) (by decide) (fun v σ1 g1 h => ?_) (fun E σ1 g1 h => ?_)
  · exact h.elim
  · obtain ⟨⟨eE, n, hn, rfl⟩, k1, k2⟩ := h
    have eE : E = "java/lang/IndexOutOfBoundsException" := eE
    subst eE
    refine ce_xcatch (E := "java/lang/IndexOutOfBoundsException") [] 0 9 [] rfl (by decide) (fun _ hz => by cases hz) ⟨by decide, by decide⟩ (by decide) kRL_28 wc_IndexOutOfBoundsException (fun q => ?_)
    have h9 : kl_h σ g a w S 1 V (some (.int (nI 1))) (n, σ.2) g1 := ⟨rfl, ⟨hn, rfl, rfl, fun _ _ => rfl⟩, fun q => absurd q (by decide), ⟨b, hX, k1⟩, k2⟩
    refine ce_astore_n dL_save_12 (Nat.le_of_ble_eq_true rfl) rfl ?_
    refine ce_iconst (v := nI 1) dL_save_13 (by decide) ?_
    exact ce_iret dL_save_14 rfl rfl (by decide) (by decide) h9
set_option maxHeartbeats 2000000 in
set_option maxRecDepth 20000 in
theorem h_shortest_ok {σ : ce_S} {g : ce_D} {a : Nat} {b : Nat → Nat} {S S2 : ks_S} {V : Int32} (w : Nat) (x0 : Int32) (hX : ce_LX σ a b) (hw : ce_kd σ w = 14 ∧ ce_ln σ w = 1) (hC : ce_CT (ce_r 5) mX7_shortest [.ref a, .int x0] σ g (kl_q σ g a S2 V) ce_no) : ce_CT ce_rh mL_shortest [.ref a, .int x0, .ref w] σ g (kl_h σ g a w S2 0 V) ce_no := by
  refine ce_enterH (by decide) rfl (Nat.le_of_ble_eq_true rfl) (L := [some (.ref a), some (.int x0), some (.ref w), none]) rfl ?_
  refine ce_aload_n dL_shortest_0 rfl ?_
  refine ce_iconst (v := nI 0) dL_shortest_1 (by decide) ?_
  refine ce_aload_n dL_shortest_2 rfl ?_
  refine ce_iload_n dL_shortest_3 rfl ?_
  refine ce_callVX dL_shortest_4 hX7_shortest kRL_83 hC rfl rfl hX.1 rfl (by decide) (Nat.le_of_ble_eq_true rfl) (by decide) (by decide) (fun v σ1 g1 h => ?_) (fun E σ1 g1 h => ?_)
  · obtain ⟨rfl, k1, k2, k3⟩ := h
    refine ce_i2l (v := V.toInt64) dL_shortest_7 rfl ?_
    refine ce_last (n := 0) (len := 1) dL_shortest_8 (by rw [k1.2.1]; exact hw.1) rfl (by rw [k1.2.2.1]; exact hw.2) (by decide) (by decide) ?_
    have h9 : kl_h σ g a w S2 0 V (some (.int (nI 0))) (ce_upL σ1 w 0 V.toInt64) g1 := ⟨rfl, ⟨k1.1, k1.2.1, k1.2.2.1, k1.2.2.2⟩, fun _ => by rw [ce_upL_eq]; exact if_pos rfl, k2, k3⟩
    refine ce_goto (tgt := 15) dL_shortest_9 (by decide) ?_
    refine ce_iconst (v := nI 0) dL_shortest_15 (by decide) ?_
    exact ce_iret dL_shortest_16 rfl rfl (by decide) (by decide) h9
  · exact h.elim
set_option maxHeartbeats 2000000 in
set_option maxRecDepth 20000 in
theorem h_shortest_n1 {σ : ce_S} {g : ce_D} {a : Nat} {b : Nat → Nat} {S S2 : ks_S} {V : Int32} (w : Nat) (x0 : Int32) (hX : ce_LX σ a b) (hC : ce_CT (ce_rx 2) mX7_shortest [.ref a, .int x0] σ g (fun _ _ _ => False) (kx_XR 1 σ g a b S)) : ce_CT ce_rh mL_shortest [.ref a, .int x0, .ref w] σ g (kl_h σ g a w S 1 V) ce_no := by
  refine ce_enterH (by decide) rfl (Nat.le_of_ble_eq_true rfl) (L := [some (.ref a), some (.int x0), some (.ref w), none]) rfl ?_
  refine ce_aload_n dL_shortest_0 rfl ?_
  refine ce_iconst (v := nI 0) dL_shortest_1 (by decide) ?_
  refine ce_aload_n dL_shortest_2 rfl ?_
  refine ce_iload_n dL_shortest_3 rfl ?_
  refine ce_callVX dL_shortest_4 hX7_shortest kRL_83 hC rfl rfl hX.1 rfl (by decide) (Nat.le_of_ble_eq_true rfl) (by decide) (by decide) (fun v σ1 g1 h => ?_) (fun E σ1 g1 h => ?_)
  · exact h.elim
  · obtain ⟨⟨eE, n, hn, rfl⟩, k1, k2⟩ := h
    have eE : E = "java/lang/IndexOutOfBoundsException" := eE
    subst eE
    refine ce_xcatch (E := "java/lang/IndexOutOfBoundsException") [] 0 9 [] rfl (by decide) (fun _ hz => by cases hz) ⟨by decide, by decide⟩ (by decide) kRL_28 wc_IndexOutOfBoundsException (fun q => ?_)
    have h9 : kl_h σ g a w S 1 V (some (.int (nI 1))) (n, σ.2) g1 := ⟨rfl, ⟨hn, rfl, rfl, fun _ _ => rfl⟩, fun q => absurd q (by decide), ⟨b, hX, k1⟩, k2⟩
    refine ce_astore_n dL_shortest_12 (Nat.le_of_ble_eq_true rfl) rfl ?_
    refine ce_iconst (v := nI 1) dL_shortest_13 (by decide) ?_
    exact ce_iret dL_shortest_14 rfl rfl (by decide) (by decide) h9
set_option maxHeartbeats 2000000 in
set_option maxRecDepth 20000 in
theorem h_simulate_ok {σ : ce_S} {g : ce_D} {a : Nat} {b : Nat → Nat} {S S2 : ks_S} {V : Int32} (w : Nat) (t0 : Int64) (x1 : Int32) (hX : ce_LX σ a b) (hw : ce_kd σ w = 14 ∧ ce_ln σ w = 1) (hC : ce_CT (ce_r 6) mX7_simulate [.ref a, .long t0, .int x1] σ g (kl_q σ g a S2 V) ce_no) : ce_CT ce_rh mL_simulate [.ref a, .long t0, .int x1, .ref w] σ g (kl_h σ g a w S2 0 V) ce_no := by
  refine ce_enterH (by decide) rfl (Nat.le_of_ble_eq_true rfl) (L := [some (.ref a), some (.long t0), none, some (.int x1), some (.ref w), none]) rfl ?_
  refine ce_aload dL_simulate_0 rfl ?_
  refine ce_iconst (v := nI 0) dL_simulate_2 (by decide) ?_
  refine ce_aload_n dL_simulate_3 rfl ?_
  refine ce_lload_n dL_simulate_4 rfl ?_
  refine ce_iload_n dL_simulate_5 rfl ?_
  refine ce_callVX dL_simulate_6 hX7_simulate kRL_90 hC rfl rfl hX.1 rfl (by decide) (Nat.le_of_ble_eq_true rfl) (by decide) (by decide) (fun v σ1 g1 h => ?_) (fun E σ1 g1 h => ?_)
  · obtain ⟨rfl, k1, k2, k3⟩ := h
    refine ce_i2l (v := V.toInt64) dL_simulate_9 rfl ?_
    refine ce_last (n := 0) (len := 1) dL_simulate_10 (by rw [k1.2.1]; exact hw.1) rfl (by rw [k1.2.2.1]; exact hw.2) (by decide) (by decide) ?_
    have h9 : kl_h σ g a w S2 0 V (some (.int (nI 0))) (ce_upL σ1 w 0 V.toInt64) g1 := ⟨rfl, ⟨k1.1, k1.2.1, k1.2.2.1, k1.2.2.2⟩, fun _ => by rw [ce_upL_eq]; exact if_pos rfl, k2, k3⟩
    refine ce_goto (tgt := 18) dL_simulate_11 (by decide) ?_
    refine ce_iconst (v := nI 0) dL_simulate_18 (by decide) ?_
    exact ce_iret dL_simulate_19 rfl rfl (by decide) (by decide) h9
  · exact h.elim
set_option maxHeartbeats 2000000 in
set_option maxRecDepth 20000 in
theorem h_simulate_n2 {σ : ce_S} {g : ce_D} {a : Nat} {b : Nat → Nat} {S S2 : ks_S} {V : Int32} (w : Nat) (t0 : Int64) (x1 : Int32) (hX : ce_LX σ a b) (hC : ce_CT (ce_rx 2) mX7_simulate [.ref a, .long t0, .int x1] σ g (fun _ _ _ => False) (kx_XR 2 σ g a b S)) : ce_CT ce_rh mL_simulate [.ref a, .long t0, .int x1, .ref w] σ g (kl_h σ g a w S 1 V) ce_no := by
  refine ce_enterH (by decide) rfl (Nat.le_of_ble_eq_true rfl) (L := [some (.ref a), some (.long t0), none, some (.int x1), some (.ref w), none]) rfl ?_
  refine ce_aload dL_simulate_0 rfl ?_
  refine ce_iconst (v := nI 0) dL_simulate_2 (by decide) ?_
  refine ce_aload_n dL_simulate_3 rfl ?_
  refine ce_lload_n dL_simulate_4 rfl ?_
  refine ce_iload_n dL_simulate_5 rfl ?_
  refine ce_callVX dL_simulate_6 hX7_simulate kRL_90 hC rfl rfl hX.1 rfl (by decide) (Nat.le_of_ble_eq_true rfl) (by decide) (by decide) (fun v σ1 g1 h => ?_) (fun E σ1 g1 h => ?_)
  · exact h.elim
  · obtain ⟨⟨eE, n, hn, rfl⟩, k1, k2⟩ := h
    have eE : E = "java/lang/IllegalArgumentException" := eE
    subst eE
    refine ce_xcatch (E := "java/lang/IllegalArgumentException") [] 0 11 [] rfl (by decide) (fun _ hz => by cases hz) ⟨by decide, by decide⟩ (by decide) kRL_13 wc_IllegalArgumentException (fun q => ?_)
    have h9 : kl_h σ g a w S 1 V (some (.int (nI 1))) (n, σ.2) g1 := ⟨rfl, ⟨hn, rfl, rfl, fun _ _ => rfl⟩, fun q => absurd q (by decide), ⟨b, hX, k1⟩, k2⟩
    refine ce_astore dL_simulate_14 (Nat.le_of_ble_eq_true rfl) rfl ?_
    refine ce_iconst (v := nI 1) dL_simulate_16 (by decide) ?_
    exact ce_iret dL_simulate_17 rfl rfl (by decide) (by decide) h9
set_option maxHeartbeats 2000000 in
set_option maxRecDepth 20000 in
theorem h_undo_ok {σ : ce_S} {g : ce_D} {a : Nat} {b : Nat → Nat} {S S2 : ks_S} {V : Int32} (w : Nat) (hX : ce_LX σ a b) (hw : ce_kd σ w = 14 ∧ ce_ln σ w = 1) (hC : ce_CT (ce_r 5) mX7_undo [.ref a] σ g (kl_q σ g a S2 V) ce_no) : ce_CT ce_rh mL_undo [.ref a, .ref w] σ g (kl_h σ g a w S2 0 V) ce_no := by
  refine ce_enterH (by decide) rfl (Nat.le_of_ble_eq_true rfl) (L := [some (.ref a), some (.ref w), none]) rfl ?_
  refine ce_aload_n dL_undo_0 rfl ?_
  refine ce_iconst (v := nI 0) dL_undo_1 (by decide) ?_
  refine ce_aload_n dL_undo_2 rfl ?_
  refine ce_callVX dL_undo_3 hX7_undo kRL_74 hC rfl rfl hX.1 rfl (by decide) (Nat.le_of_ble_eq_true rfl) (by decide) (by decide) (fun v σ1 g1 h => ?_) (fun E σ1 g1 h => ?_)
  · obtain ⟨rfl, k1, k2, k3⟩ := h
    refine ce_i2l (v := V.toInt64) dL_undo_6 rfl ?_
    refine ce_last (n := 0) (len := 1) dL_undo_7 (by rw [k1.2.1]; exact hw.1) rfl (by rw [k1.2.2.1]; exact hw.2) (by decide) (by decide) ?_
    have h9 : kl_h σ g a w S2 0 V (some (.int (nI 0))) (ce_upL σ1 w 0 V.toInt64) g1 := ⟨rfl, ⟨k1.1, k1.2.1, k1.2.2.1, k1.2.2.2⟩, fun _ => by rw [ce_upL_eq]; exact if_pos rfl, k2, k3⟩
    refine ce_goto (tgt := 14) dL_undo_8 (by decide) ?_
    refine ce_iconst (v := nI 0) dL_undo_14 (by decide) ?_
    exact ce_iret dL_undo_15 rfl rfl (by decide) (by decide) h9
  · exact h.elim
set_option maxHeartbeats 2000000 in
set_option maxRecDepth 20000 in
theorem h_undo_n3 {σ : ce_S} {g : ce_D} {a : Nat} {b : Nat → Nat} {S S2 : ks_S} {V : Int32} (w : Nat) (hX : ce_LX σ a b) (hC : ce_CT (ce_rx 2) mX7_undo [.ref a] σ g (fun _ _ _ => False) (kx_XR 3 σ g a b S)) : ce_CT ce_rh mL_undo [.ref a, .ref w] σ g (kl_h σ g a w S 1 V) ce_no := by
  refine ce_enterH (by decide) rfl (Nat.le_of_ble_eq_true rfl) (L := [some (.ref a), some (.ref w), none]) rfl ?_
  refine ce_aload_n dL_undo_0 rfl ?_
  refine ce_iconst (v := nI 0) dL_undo_1 (by decide) ?_
  refine ce_aload_n dL_undo_2 rfl ?_
  refine ce_callVX dL_undo_3 hX7_undo kRL_74 hC rfl rfl hX.1 rfl (by decide) (Nat.le_of_ble_eq_true rfl) (by decide) (by decide) (fun v σ1 g1 h => ?_) (fun E σ1 g1 h => ?_)
  · exact h.elim
  · obtain ⟨⟨eE, n, hn, rfl⟩, k1, k2⟩ := h
    have eE : E = "java/lang/IllegalStateException" := eE
    subst eE
    refine ce_xcatch (E := "java/lang/IllegalStateException") [] 0 8 [] rfl (by decide) (fun _ hz => by cases hz) ⟨by decide, by decide⟩ (by decide) kRL_15 wc_IllegalStateException (fun q => ?_)
    have h9 : kl_h σ g a w S 1 V (some (.int (nI 1))) (n, σ.2) g1 := ⟨rfl, ⟨hn, rfl, rfl, fun _ _ => rfl⟩, fun q => absurd q (by decide), ⟨b, hX, k1⟩, k2⟩
    refine ce_astore_n dL_undo_11 (Nat.le_of_ble_eq_true rfl) rfl ?_
    refine ce_iconst (v := nI 1) dL_undo_12 (by decide) ?_
    exact ce_iret dL_undo_13 rfl rfl (by decide) (by decide) h9
set_option maxHeartbeats 2000000 in
set_option maxRecDepth 20000 in
theorem h_wine_ok {σ : ce_S} {g : ce_D} {a : Nat} {b : Nat → Nat} {S S2 : ks_S} {V : Int32} (w : Nat) (x0 : Int32) (x1 : Int32) (hX : ce_LX σ a b) (hw : ce_kd σ w = 14 ∧ ce_ln σ w = 1) (hC : ce_CT (ce_r 5) mX7_wine [.ref a, .int x0, .int x1] σ g (kl_q σ g a S2 V) ce_no) : ce_CT ce_rh mL_wine [.ref a, .int x0, .int x1, .ref w] σ g (kl_h σ g a w S2 0 V) ce_no := by
  refine ce_enterH (by decide) rfl (Nat.le_of_ble_eq_true rfl) (L := [some (.ref a), some (.int x0), some (.int x1), some (.ref w), none]) rfl ?_
  refine ce_aload_n dL_wine_0 rfl ?_
  refine ce_iconst (v := nI 0) dL_wine_1 (by decide) ?_
  refine ce_aload_n dL_wine_2 rfl ?_
  refine ce_iload_n dL_wine_3 rfl ?_
  refine ce_iload_n dL_wine_4 rfl ?_
  refine ce_callVX dL_wine_5 hX7_wine kRL_30 hC rfl rfl hX.1 rfl (by decide) (Nat.le_of_ble_eq_true rfl) (by decide) (by decide) (fun v σ1 g1 h => ?_) (fun E σ1 g1 h => ?_)
  · obtain ⟨rfl, k1, k2, k3⟩ := h
    refine ce_i2l (v := V.toInt64) dL_wine_8 rfl ?_
    refine ce_last (n := 0) (len := 1) dL_wine_9 (by rw [k1.2.1]; exact hw.1) rfl (by rw [k1.2.2.1]; exact hw.2) (by decide) (by decide) ?_
    have h9 : kl_h σ g a w S2 0 V (some (.int (nI 0))) (ce_upL σ1 w 0 V.toInt64) g1 := ⟨rfl, ⟨k1.1, k1.2.1, k1.2.2.1, k1.2.2.2⟩, fun _ => by rw [ce_upL_eq]; exact if_pos rfl, k2, k3⟩
    refine ce_goto (tgt := 21) dL_wine_10 (by decide) ?_
    refine ce_iconst (v := nI 0) dL_wine_21 (by decide) ?_
    exact ce_iret dL_wine_22 rfl rfl (by decide) (by decide) h9
  · exact h.elim
set_option maxHeartbeats 2000000 in
set_option maxRecDepth 20000 in
theorem h_wine_n1 {σ : ce_S} {g : ce_D} {a : Nat} {b : Nat → Nat} {S S2 : ks_S} {V : Int32} (w : Nat) (x0 : Int32) (x1 : Int32) (hX : ce_LX σ a b) (hC : ce_CT (ce_rx 2) mX7_wine [.ref a, .int x0, .int x1] σ g (fun _ _ _ => False) (kx_XR 1 σ g a b S)) : ce_CT ce_rh mL_wine [.ref a, .int x0, .int x1, .ref w] σ g (kl_h σ g a w S 1 V) ce_no := by
  refine ce_enterH (by decide) rfl (Nat.le_of_ble_eq_true rfl) (L := [some (.ref a), some (.int x0), some (.int x1), some (.ref w), none]) rfl ?_
  refine ce_aload_n dL_wine_0 rfl ?_
  refine ce_iconst (v := nI 0) dL_wine_1 (by decide) ?_
  refine ce_aload_n dL_wine_2 rfl ?_
  refine ce_iload_n dL_wine_3 rfl ?_
  refine ce_iload_n dL_wine_4 rfl ?_
  refine ce_callVX dL_wine_5 hX7_wine kRL_30 hC rfl rfl hX.1 rfl (by decide) (Nat.le_of_ble_eq_true rfl) (by decide) (by decide) (fun v σ1 g1 h => ?_) (fun E σ1 g1 h => ?_)
  · exact h.elim
  · obtain ⟨⟨eE, n, hn, rfl⟩, k1, k2⟩ := h
    have eE : E = "java/lang/IndexOutOfBoundsException" := eE
    subst eE
    refine ce_xcatch (E := "java/lang/IndexOutOfBoundsException") [] 0 10 [(0, 10, 17, 13)] rfl (by decide) (fun _ hz => by cases hz) ⟨by decide, by decide⟩ (by decide) kRL_28 wc_IndexOutOfBoundsException (fun q => ?_)
    have h9 : kl_h σ g a w S 1 V (some (.int (nI 1))) (n, σ.2) g1 := ⟨rfl, ⟨hn, rfl, rfl, fun _ _ => rfl⟩, fun q => absurd q (by decide), ⟨b, hX, k1⟩, k2⟩
    refine ce_astore dL_wine_13 (Nat.le_of_ble_eq_true rfl) rfl ?_
    refine ce_iconst (v := nI 1) dL_wine_15 (by decide) ?_
    exact ce_iret dL_wine_16 rfl rfl (by decide) (by decide) h9
set_option maxHeartbeats 2000000 in
set_option maxRecDepth 20000 in
theorem h_wine_n2 {σ : ce_S} {g : ce_D} {a : Nat} {b : Nat → Nat} {S S2 : ks_S} {V : Int32} (w : Nat) (x0 : Int32) (x1 : Int32) (hX : ce_LX σ a b) (hC : ce_CT (ce_rx 2) mX7_wine [.ref a, .int x0, .int x1] σ g (fun _ _ _ => False) (kx_XR 2 σ g a b S)) : ce_CT ce_rh mL_wine [.ref a, .int x0, .int x1, .ref w] σ g (kl_h σ g a w S 2 V) ce_no := by
  refine ce_enterH (by decide) rfl (Nat.le_of_ble_eq_true rfl) (L := [some (.ref a), some (.int x0), some (.int x1), some (.ref w), none]) rfl ?_
  refine ce_aload_n dL_wine_0 rfl ?_
  refine ce_iconst (v := nI 0) dL_wine_1 (by decide) ?_
  refine ce_aload_n dL_wine_2 rfl ?_
  refine ce_iload_n dL_wine_3 rfl ?_
  refine ce_iload_n dL_wine_4 rfl ?_
  refine ce_callVX dL_wine_5 hX7_wine kRL_30 hC rfl rfl hX.1 rfl (by decide) (Nat.le_of_ble_eq_true rfl) (by decide) (by decide) (fun v σ1 g1 h => ?_) (fun E σ1 g1 h => ?_)
  · exact h.elim
  · obtain ⟨⟨eE, n, hn, rfl⟩, k1, k2⟩ := h
    have eE : E = "java/lang/IllegalArgumentException" := eE
    subst eE
    refine ce_xcatch (E := "java/lang/IllegalArgumentException") [(0, 10, 13, 28)] 0 10 [] rfl (by decide) (fun z hz => by
        have hz : z = (0, 10, 13, 28) := by simpa using hz
        rcases hz with rfl
        · exact ⟨by decide, "java/lang/IndexOutOfBoundsException", by decide, by decide, kRL_28⟩) ⟨by decide, by decide⟩ (by decide) kRL_13 wc_IllegalArgumentException (fun q => ?_)
    have h9 : kl_h σ g a w S 2 V (some (.int (nI 2))) (n, σ.2) g1 := ⟨rfl, ⟨hn, rfl, rfl, fun _ _ => rfl⟩, fun q => absurd q (by decide), ⟨b, hX, k1⟩, k2⟩
    refine ce_astore dL_wine_17 (Nat.le_of_ble_eq_true rfl) rfl ?_
    refine ce_iconst (v := nI 2) dL_wine_19 (by decide) ?_
    exact ce_iret dL_wine_20 rfl rfl (by decide) (by decide) h9
set_option maxHeartbeats 2000000 in
set_option maxRecDepth 20000 in
theorem h_wouldGet_ok {σ : ce_S} {g : ce_D} {a : Nat} {b : Nat → Nat} {S S2 : ks_S} {V : Int32} (w : Nat) (x0 : Int32) (x1 : Int32) (hX : ce_LX σ a b) (hw : ce_kd σ w = 14 ∧ ce_ln σ w = 1) (hC : ce_CT (ce_r 5) mX7_wouldGet [.ref a, .int x0, .int x1] σ g (kl_q σ g a S2 V) ce_no) : ce_CT ce_rh mL_wouldGet [.ref a, .int x0, .int x1, .ref w] σ g (kl_h σ g a w S2 0 V) ce_no := by
  refine ce_enterH (by decide) rfl (Nat.le_of_ble_eq_true rfl) (L := [some (.ref a), some (.int x0), some (.int x1), some (.ref w), none]) rfl ?_
  refine ce_aload_n dL_wouldGet_0 rfl ?_
  refine ce_iconst (v := nI 0) dL_wouldGet_1 (by decide) ?_
  refine ce_aload_n dL_wouldGet_2 rfl ?_
  refine ce_iload_n dL_wouldGet_3 rfl ?_
  refine ce_iload_n dL_wouldGet_4 rfl ?_
  refine ce_callVX dL_wouldGet_5 hX7_wouldGet kRL_77 hC rfl rfl hX.1 rfl (by decide) (Nat.le_of_ble_eq_true rfl) (by decide) (by decide) (fun v σ1 g1 h => ?_) (fun E σ1 g1 h => ?_)
  · obtain ⟨rfl, k1, k2, k3⟩ := h
    refine ce_i2l (v := V.toInt64) dL_wouldGet_8 rfl ?_
    refine ce_last (n := 0) (len := 1) dL_wouldGet_9 (by rw [k1.2.1]; exact hw.1) rfl (by rw [k1.2.2.1]; exact hw.2) (by decide) (by decide) ?_
    have h9 : kl_h σ g a w S2 0 V (some (.int (nI 0))) (ce_upL σ1 w 0 V.toInt64) g1 := ⟨rfl, ⟨k1.1, k1.2.1, k1.2.2.1, k1.2.2.2⟩, fun _ => by rw [ce_upL_eq]; exact if_pos rfl, k2, k3⟩
    refine ce_goto (tgt := 17) dL_wouldGet_10 (by decide) ?_
    refine ce_iconst (v := nI 0) dL_wouldGet_17 (by decide) ?_
    exact ce_iret dL_wouldGet_18 rfl rfl (by decide) (by decide) h9
  · exact h.elim
set_option maxHeartbeats 2000000 in
set_option maxRecDepth 20000 in
theorem h_wouldGet_n1 {σ : ce_S} {g : ce_D} {a : Nat} {b : Nat → Nat} {S S2 : ks_S} {V : Int32} (w : Nat) (x0 : Int32) (x1 : Int32) (hX : ce_LX σ a b) (hC : ce_CT (ce_rx 2) mX7_wouldGet [.ref a, .int x0, .int x1] σ g (fun _ _ _ => False) (kx_XR 1 σ g a b S)) : ce_CT ce_rh mL_wouldGet [.ref a, .int x0, .int x1, .ref w] σ g (kl_h σ g a w S 1 V) ce_no := by
  refine ce_enterH (by decide) rfl (Nat.le_of_ble_eq_true rfl) (L := [some (.ref a), some (.int x0), some (.int x1), some (.ref w), none]) rfl ?_
  refine ce_aload_n dL_wouldGet_0 rfl ?_
  refine ce_iconst (v := nI 0) dL_wouldGet_1 (by decide) ?_
  refine ce_aload_n dL_wouldGet_2 rfl ?_
  refine ce_iload_n dL_wouldGet_3 rfl ?_
  refine ce_iload_n dL_wouldGet_4 rfl ?_
  refine ce_callVX dL_wouldGet_5 hX7_wouldGet kRL_77 hC rfl rfl hX.1 rfl (by decide) (Nat.le_of_ble_eq_true rfl) (by decide) (by decide) (fun v σ1 g1 h => ?_) (fun E σ1 g1 h => ?_)
  · exact h.elim
  · obtain ⟨⟨eE, n, hn, rfl⟩, k1, k2⟩ := h
    have eE : E = "java/lang/IndexOutOfBoundsException" := eE
    subst eE
    refine ce_xcatch (E := "java/lang/IndexOutOfBoundsException") [] 0 10 [] rfl (by decide) (fun _ hz => by cases hz) ⟨by decide, by decide⟩ (by decide) kRL_28 wc_IndexOutOfBoundsException (fun q => ?_)
    have h9 : kl_h σ g a w S 1 V (some (.int (nI 1))) (n, σ.2) g1 := ⟨rfl, ⟨hn, rfl, rfl, fun _ _ => rfl⟩, fun q => absurd q (by decide), ⟨b, hX, k1⟩, k2⟩
    refine ce_astore dL_wouldGet_13 (Nat.le_of_ble_eq_true rfl) rfl ?_
    refine ce_iconst (v := nI 1) dL_wouldGet_15 (by decide) ?_
    exact ce_iret dL_wouldGet_16 rfl rfl (by decide) (by decide) h9
