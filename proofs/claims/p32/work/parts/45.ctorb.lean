theorem ci_LA {σ : ce_S} {g : ce_D} {c n K len : Nat} {S : ci_T} (h : ci_pt σ g c S n) (i : Nat) (hi : i < n) (e : (S i).1 = K ∧ (S i).2.1 = len) : ce_LA σ K (c + i) len := ⟨(h i hi).1.trans e.1, (h i hi).2.1.trans e.2⟩
theorem ci_gr {σ : ce_S} {g : ce_D} {c n k j : Nat} {S : ci_T} (h : ci_pt σ g c S n) (i : Nat) (hi : i < n) (e : (S i).2.2 k = some j) : ce_gr σ (c + i) k = some (c + j) := by rw [(h i hi).2.2.1 k, e]; rfl
theorem ci_g0 {σ : ce_S} {g : ce_D} {c n : Nat} {S : ci_T} (h : ci_pt σ g c S n) (i : Nat) (hi : i < n) (j : Nat) : g (c + i) j = nI 0 := by rw [(h i hi).2.2.2]; rfl
theorem ci_LC {σ : ce_S} {g : ce_D} {c : Nat} (h : ci_pt σ g c ci_X0_init 20) : ce_LC σ c ∧ ce_rC g c kv_0 (fun _ => 0) := by
  refine ⟨⟨(h 0 (by decide)).1, ⟨ci_gr h 0 (by decide) rfl, ci_gr h 0 (by decide) rfl, ci_gr h 0 (by decide) rfl, ci_gr h 0 (by decide) rfl, ci_gr h 0 (by decide) rfl, ci_gr h 0 (by decide) rfl, ci_gr h 0 (by decide) rfl⟩, ⟨ci_gr h 0 (by decide) rfl, ci_gr h 0 (by decide) rfl, ci_gr h 0 (by decide) rfl, ci_gr h 0 (by decide) rfl, ci_gr h 0 (by decide) rfl⟩, ⟨ci_LA h 1 (by decide) ⟨rfl, rfl⟩, ci_LA h 2 (by decide) ⟨rfl, rfl⟩, ci_LA h 3 (by decide) ⟨rfl, rfl⟩, ci_LA h 4 (by decide) ⟨rfl, rfl⟩, ci_LA h 5 (by decide) ⟨rfl, rfl⟩, ci_LA h 6 (by decide) ⟨rfl, rfl⟩, ci_LA h 7 (by decide) ⟨rfl, rfl⟩⟩,
    ⟨⟨(h 8 (by decide)).1, ci_gr (j := 9) h 8 (by decide) rfl, ci_LA h 9 (by decide) ⟨rfl, rfl⟩⟩, ⟨(h 10 (by decide)).1, ci_gr (j := 11) h 10 (by decide) rfl, ci_LA h 11 (by decide) ⟨rfl, rfl⟩⟩, ⟨(h 12 (by decide)).1, ci_gr (j := 13) h 12 (by decide) rfl, ci_LA h 13 (by decide) ⟨rfl, rfl⟩⟩, ⟨(h 14 (by decide)).1, ci_gr (j := 15) h 14 (by decide) rfl, ci_LA h 15 (by decide) ⟨rfl, rfl⟩⟩⟩,
    ⟨(h 16 (by decide)).1, ⟨ci_gr (j := 17) h 16 (by decide) rfl, ci_gr (j := 18) h 16 (by decide) rfl, ci_gr (j := 19) h 16 (by decide) rfl⟩, ci_LA h 17 (by decide) ⟨rfl, rfl⟩, ci_LA h 18 (by decide) ⟨rfl, rfl⟩, ci_LA h 19 (by decide) ⟨rfl, rfl⟩⟩⟩, ci_g0 h 0 (by decide) 0, ci_g0 h 0 (by decide) 1, fun k h1 h2 j hj => ?_, fun m hm => ci_g0 h 2 (by decide) m, ?_⟩
  · have := kv_ad_2 h1 h2
    exact ci_g0 h (kv_ad k) (by omega) j
  · exact ⟨ci_g0 h 16 (by decide) 0, fun j hj => ci_g0 h 17 (by decide) j, fun b hb => absurd hb (Nat.not_lt_zero b), fun j hj => ci_g0 h 19 (by decide) j⟩
theorem ce_LC.sb {σ σ' : ce_S} {g g' : ce_D} {c t : Nat} (h : ce_LC σ c) (b : ci_sb t σ g σ' g') (e : c + 20 ≤ t) : ce_LC σ' c := by
  have q : ∀ x, x < t → ce_kd σ' x = ce_kd σ x ∧ ce_ln σ' x = ce_ln σ x ∧ ce_gr σ' x = ce_gr σ x := fun x hx => ⟨(b x hx).1, (b x hx).2.1, (b x hx).2.2.1⟩
  have LA : ∀ {K a n}, ce_LA σ K a n → a < t → ce_LA σ' K a n := fun h hx => ⟨(q _ hx).1.trans h.1, (q _ hx).2.1.trans h.2⟩
  have GR : ∀ {a k v}, ce_gr σ a k = v → a < t → ce_gr σ' a k = v := fun h hx => by rw [(q _ hx).2.2]; exact h
  have LT : ∀ {a}, ce_LT σ a → a + 1 < t → ce_LT σ' a := fun h hx => ⟨(q _ (by omega)).1.trans h.1, GR h.2.1 (by omega), LA h.2.2 hx⟩
  obtain ⟨h1, ⟨r1, r2, r3, r4, r5, r6, r7⟩, ⟨r8, r9, r10, r11, r12⟩, ⟨a1, a2, a3, a4, a5, a6, a7⟩, ⟨t1, t2, t3, t4⟩, k1, ⟨k2, k3, k4⟩, k5, k6, k7⟩ := h
  exact ⟨(q _ (by omega)).1.trans h1, ⟨GR r1 (by omega), GR r2 (by omega), GR r3 (by omega), GR r4 (by omega), GR r5 (by omega), GR r6 (by omega), GR r7 (by omega)⟩, ⟨GR r8 (by omega), GR r9 (by omega), GR r10 (by omega), GR r11 (by omega), GR r12 (by omega)⟩, ⟨LA a1 (by omega), LA a2 (by omega), LA a3 (by omega), LA a4 (by omega), LA a5 (by omega), LA a6 (by omega), LA a7 (by omega)⟩, ⟨LT t1 (by omega), LT t2 (by omega), LT t3 (by omega), LT t4 (by omega)⟩, (q _ (by omega)).1.trans k1, ⟨GR k2 (by omega), GR k3 (by omega), GR k4 (by omega)⟩, LA k5 (by omega), LA k6 (by omega), LA k7 (by omega)⟩
/-- clubs are made for an array of references -/
def ci_cl (σ : ce_S) (s c n : Nat) : Prop := ∀ k, k < n → ce_gr σ s k = some (c + 20 * k) ∧ ce_LC σ (c + 20 * k)
theorem ci_cl.st {σ σ1 σ2 σ3 : ce_S} {g g1 g2 : ce_D} {s c n : Nat} (h : ci_cl σ s c n) (hs : s < c) (b1 : ci_sb (c + 20 * n) σ g σ1 g1) (b2 : ci_sb (c + 20 * n) σ1 g1 σ2 g2) (hp : ci_pt σ2 g2 (c + 20 * n) ci_X0_init 20) (e : ce_upR σ2 s n (some (c + 20 * n)) = σ3) : ci_cl σ3 s c (n + 1) := by
  have b := b1.tr b2
  have em : ce_sm s σ2 σ3 := e ▸ ce_sm.up
  intro k hk
  rw [← e, ce_upR_eq, e]
  by_cases q : k = n
  · rw [if_pos q, q]
    exact ⟨rfl, (ci_LC hp).1.sm em (by omega)⟩
  · rw [if_neg q, (b s (by omega)).2.2.1]
    exact ⟨(h k (by omega)).1, ((h k (by omega)).2.sb b (by omega)).sm em (by omega)⟩
set_option maxHeartbeats 2000000 in
set_option maxRecDepth 20000 in
theorem w_X1_init {s0 : ce_S} {g0 : ce_D} (h : Nat) : ∀ (n9 i : Nat) (s1 : ce_S) (g1 : ce_D), 14 - i < n9 → i ≤ 14 → (s1.1 = h + 2 + 20 * (i) ∧ (ce_kd s1 h = 1 + 1 ∧ ce_gr s1 h 0 = some (h + 1) ∧ ce_LA s1 13 (h + 1) 14) ∧ ci_cl s1 (h + 1) (h + 2) (i) ∧ g1 h = (fun _ => 0) ∧ ci_sb h s0 g0 s1 g1) → ce_WP (ce_ri 3 281 3262) mX1_init (1 + 20 * i) (14 + 232 * i) 15 [some (.ref (h)), some (.int (nI (i)))] [] s1 g1 (ce_sv (fun s1 g1 => s1.1 = h + 282 ∧ (ce_kd s1 h = 1 + 1 ∧ ce_gr s1 h 0 = some (h + 1) ∧ ce_LA s1 13 (h + 1) 14) ∧ ci_cl s1 (h + 1) (h + 2) 14 ∧ g1 h = (fun _ => 0) ∧ ci_sb h s0 g0 s1 g1)) ce_no := by
  intro n9
  induction n9 with
  | zero =>
    intros
    omega
  | succ n9 ih =>
    intro i s1 g1 hm hi hI
    have ht := hI.1
    refine ce_iload_n dX1_init_15 rfl ?_
    refine ce_bipush (v := nI (14)) dX1_init_16 (by decide) ?_
    refine ce_icmp_geN (tgt := 40) dX1_init_18 (by decide) rfl rfl (by omega) (by omega) (fun c_18 => ?_) (fun c_18 => ?_)
    · have ei : i = 14 := by omega
      subst ei
      exact ce_vret dX1_init_40 rfl (by decide) (by decide) ⟨rfl, ht.trans (by omega), hI.2.1, hI.2.2.1, hI.2.2.2.1, hI.2.2.2.2⟩
    · refine ce_aload_n dX1_init_21 rfl ?_
      refine ce_getR dX1_init_22 fRX1_11 hI.2.1.1 hI.2.1.2.1 ?_
      refine ce_iload_n dX1_init_25 rfl ?_
      refine ce_new (ci := 0) dX1_init_26 kRX1_9 wi_X0 wn_X0 rfl (show _ + 1 ≤ _ by show _ ≤ 281; omega) (show _ + 14 ≤ _ by show _ ≤ 3262; omega) ?_
      have b1 : ci_sb (h + 2 + 20 * i) s1 g1 (ce_nw s1 (0 + 1) 0) (ce_nd s1 g1) := ci_sb.nw (by omega)
      have n1 : ci_sh (ce_nw s1 (0 + 1) 0) (ce_nd s1 g1) (h + 2 + 20 * i) (ci_o 1) 1 := by
        have e1 : s1.1 = h + 2 + 20 * i := ht
        refine ⟨by show s1.1 + 1 = _; omega, fun j hj => ?_⟩
        rw [show j = 0 by omega, Nat.add_zero, ← e1]
        exact ⟨ce_nw_kd _ _ _, ce_nw_ln _ _ _, fun k => by simp only [Nat.add_zero, ce_nw_gr]; rfl, ce_nd_at _ _⟩
      rw [ht]
      generalize ce_nw s1 (0 + 1) 0 = s2 at b1 n1 ⊢
      generalize ce_nd s1 g1 = g2 at b1 n1 ⊢
      refine ce_dup dX1_init_29 rfl ?_
      refine ce_cINs dX1_init_30 hX0_init kRX1_17 (m_X0_init (h + 2 + 20 * i) n1) rfl rfl (by decide) (Nat.le_of_ble_eq_true rfl) (show _ + 19 ≤ _ by show _ ≤ 281; omega) (show _ + 218 ≤ _ by show _ ≤ 3262; omega) (fun s3 g3 q3 => ?_)
      have b := b1.tr q3.2
      refine ce_aast dX1_init_33 (show ce_kd s3 (h + 1) = 13 by rw [(b _ (by omega)).1]; exact hI.2.1.2.2.1) (ci_LC q3.1.2).1.1 rfl (show ce_ln s3 (h + 1) = 14 by rw [(b _ (by omega)).2.1]; exact hI.2.1.2.2.2) (by omega) (by decide) ?_
      generalize e4 : ce_upR s3 (h + 1) i (some (h + 2 + 20 * i)) = s4
      refine ce_iinc (v := nI (i + 1)) dX1_init_34 rfl (ce_inc1 _) (Nat.le_of_ble_eq_true rfl) rfl ?_
      refine ce_goto (tgt := 15) dX1_init_37 (by decide) ?_
      have em : ce_sm (h + 1) s3 s4 := e4 ▸ ce_sm.up
      have hz : s4.1 = h + 2 + 20 * (i + 1) := by rw [← e4]; exact q3.1.1.trans (by omega)
      have e8 := ih (i + 1) s4 g3 (by omega) (by omega) ⟨hz, ⟨by rw [em.2.1, (b _ (by omega)).1]; exact hI.2.1.1, by rw [em.2.2.2.2 _ (by omega), (b _ (by omega)).2.2.1]; exact hI.2.1.2.1, ⟨by rw [em.2.1, (b _ (by omega)).1]; exact hI.2.1.2.2.1, by rw [em.2.2.1, (b _ (by omega)).2.1]; exact hI.2.1.2.2.2⟩⟩, hI.2.2.1.st (by omega) b1 q3.2 q3.1.2 e4, by rw [(b _ (by omega)).2.2.2.2]; exact hI.2.2.2.1, hI.2.2.2.2.tr ((b.mo (by omega)).tr (e4 ▸ ci_sb.up (by omega)))⟩
      rw [show 1 + 20 * (i + 1) = 1 + 20 * i + 1 + 19 by omega, show 14 + 232 * (i + 1) = 14 + 232 * i + 14 + 218 by omega] at e8
      exact e8
set_option maxHeartbeats 2000000 in
set_option maxRecDepth 20000 in
theorem m_X1_init {s0 : ce_S} {g0 : ce_D} (h : Nat) (H0 : ci_sh s0 g0 h (ci_o 2) 1) : ce_CT (ce_ri 3 281 3262) mX1_init [.ref (h)] s0 g0 (ce_sv (fun s1 g1 => s1.1 = h + 282 ∧ (ce_kd s1 h = 1 + 1 ∧ ce_gr s1 h 0 = some (h + 1) ∧ ce_LA s1 13 (h + 1) 14) ∧ ci_cl s1 (h + 1) (h + 2) 14 ∧ g1 h = (fun _ => 0) ∧ ci_sb h s0 g0 s1 g1)) ce_no := by
  refine ce_enter (by decide) rfl (Nat.le_of_ble_eq_true rfl) (L := [some (.ref h), none]) rfl ?_
  refine ce_aload_n dX1_init_0 rfl ?_
  refine ce_objInit dX1_init_1 kRX1_3 wx_oi wx_oc (by decide) (Nat.le_of_ble_eq_true rfl) ?_
  refine ce_aload_n dX1_init_4 rfl ?_
  refine ce_bipush (v := nI (14)) dX1_init_5 (by decide) ?_
  refine ce_anew dX1_init_7 kRX1_9 rfl (Nat.le_of_ble_eq_true rfl) (Nat.le_of_ble_eq_true rfl) (Nat.le_of_ble_eq_true rfl) ?_
  have H1 : ci_sh (ce_nw s0 13 14) (ce_nd s0 g0) h (ci_add (ci_o 2) 1 13 14) 2 := sh_add H0 13 14
  have B1 : ci_sb h s0 g0 (ce_nw s0 13 14) (ce_nd s0 g0) := ci_sb.nw (show h ≤ s0.1 by rw [H0.1]; omega)
  rw [H0.1]
  generalize ce_nw s0 13 14 = s1 at H1 B1 ⊢
  generalize ce_nd s0 g0 = g1 at H1 B1 ⊢
  refine ce_putF dX1_init_10 pRX1_11 (show ce_kd s1 h = 1 + 1 from (H1.2 0 (by decide)).1) rfl ?_
  have H2 := sh_fl0 H1 0 1
  have B2 := B1.tr (ci_sb.up (g := g1) (k := 0) (r := some (h + 1)) (Nat.le_refl h))
  generalize ce_upR s1 h 0 (some (h + 1)) = s2 at H2 B2 ⊢
  refine ce_iconst (v := nI (0)) dX1_init_13 (by decide) ?_
  refine ce_istore_n dX1_init_14 (Nat.le_of_ble_eq_true rfl) rfl ?_
  exact w_X1_init h 15 0 s2 g1 (by omega) (by omega) ⟨H2.1, ⟨(H2.2 0 (by decide)).1, ci_gr H2.2 0 (by decide) rfl, ci_LA H2.2 1 (by decide) ⟨rfl, rfl⟩⟩, fun k hk => absurd hk (Nat.not_lt_zero k), (H2.2 0 (by decide)).2.2.2, B2⟩
