theorem LX_sb {σ σ1 : ce_S} {g g1 : ce_D} {a t : Nat} {b : Nat → Nat} (h : ce_LX σ a b) (k : ci_sb t σ g σ1 g1) (e : a + 411 ≤ t) : ce_LX σ1 a b := by
  obtain ⟨h1, ⟨r0, r1, r2, r3, r4, r5, r6⟩, hC, ⟨⟨u1, u2, u3⟩, hg, hCs, hb⟩, ⟨l1, l2, l3⟩, ⟨t1, ⟨t2, t3, t4⟩, t5, t6, t7⟩, ⟨p1, ⟨p2, p3⟩, p4, p5⟩, ⟨s1, s2, s3, s4⟩⟩ := h
  have LA : ∀ {K x n : Nat}, ce_LA σ K x n → x < t → ce_LA σ1 K x n := fun h hx => ⟨(k _ hx).1.trans h.1, (k _ hx).2.1.trans h.2⟩
  have KD : ∀ {K x : Nat}, ce_kd σ x = K → x < t → ce_kd σ1 x = K := fun h hx => (k _ hx).1.trans h
  have GR : ∀ {x j : Nat} {o : Option Nat}, ce_gr σ x j = o → x < t → ce_gr σ1 x j = o := fun h hx => (congrFun (k _ hx).2.2.1 _).trans h
  refine ⟨KD h1 (by omega), ⟨GR r0 (by omega), GR r1 (by omega), GR r2 (by omega), GR r3 (by omega), GR r4 (by omega), GR r5 (by omega), GR r6 (by omega)⟩, hC.sb k (by omega), ⟨⟨KD u1 (by omega), GR u2 (by omega), LA u3 (by omega)⟩, fun i hi => GR (hg i hi) (by omega), fun i hi => ?_, hb⟩, ⟨KD l1 (by omega), GR l2 (by omega), l3.sb k (by omega)⟩, ⟨KD t1 (by omega), ⟨GR t2 (by omega), GR t3 (by omega), GR t4 (by omega)⟩, LA t5 (by omega), t6.sb k (by omega), t7.sb k (by omega)⟩, ⟨KD p1 (by omega), ⟨GR p2 (by omega), GR p3 (by omega)⟩, LA p4 (by omega), LA p5 (by omega)⟩, LA s1 (by omega), fun s hs => GR (s2 s hs) (by omega), fun s hs => (s3 s hs).sb k (by omega), LA s4 (by omega)⟩
  have := hb.in hi
  exact (hCs i hi).sb k (by omega)
theorem rM_0 {σ : ce_S} {g : ce_D} {d : Nat} (h : ci_pt σ g d ci_X8_init 11) : ce_rM g d ks_0 :=
  ⟨⟨Nat.zero_le _, ci_g0 h 0 (by decide) 2, fun i hi => absurd hi (Nat.not_lt_zero i)⟩, cr_zero (fun i _ => ci_g0 h 3 (by decide) i), ⟨Nat.zero_le _, ci_g0 h 0 (by decide) 9, fun i hi => absurd hi (Nat.not_lt_zero i)⟩, fun s _ => ((ci_g0 h 7 (by decide) s).trans nI_0).trans (if_neg (fun e => (by cases e))).symm, fun s _ hF => (by cases hF)⟩
set_option maxHeartbeats 2000000 in
set_option maxRecDepth 20000 in
theorem w_law {G : ce_G} {A : Nat → Prop} {p : Program} {e : Env} {s : State} {m : MethodId} {args : Array Value} {below : List Frame} {meth : Method} {c : Code} {Z : State → Prop} {b0 L0 : Nat} {xs : Nat → Int32} (Cx : ce_CL G A p s m args meth c) (hS : va_X b0 L0 xs s s.heap) (hbl : b0 < s.heap.size) (hbA : ¬ A b0) (hL : L0 ≤ 100000) (h25 : L0 ≤ 2560) (fin : ∀ (kc ks : Nat) (σ : ce_S) (g : ce_D) (L : List (Option Value)), kc ≤ 601024 → ks ≤ 7293034 → ce_WL G A p e s m args below meth c Z room_1 kc ks 1938 L [.int 1] σ g) {a : Nat} : ∀ (n9 i kc ks : Nat) (σ : ce_S) (g : ce_D) (S : ks_S), L0 - i < n9 → i ≤ L0 → kc ≤ 424 + i → ks ≤ 9600 + 6 * i → sl_iv σ g a S → ce_WL G A p e s m args below meth c Z room_1 kc ks 23 [some (.ref b0), some (.ref a), some (.ref (a + 411)), some (.ref (a + 422)), some (.int (nI (i))), none, none] [] σ g := by
  intro n9
  induction n9 with
  | zero =>
    intros
    omega
  | succ n9 ih =>
    intro i kc ks σ g S hn hi hc hs9 iv
    refine sl_iload Cx dL_law_23 rfl ?_
    refine sl_aload_n Cx dL_law_25 rfl ?_
    refine sl_slen Cx hS hbl hbA dL_law_26 ?_
    refine sl_iconst Cx (v := nI 5) dL_law_27 (by decide) ?_
    refine sl_isub Cx (z := nI L0 - nI 5) dL_law_28 rfl ?_
    refine sl_icmp_gt Cx (tgt := 1937) dL_law_29 (by decide) (fun q => ?_) (fun q => ?_)
    · refine sl_iconst Cx (v := 1) dL_law_1937 (by decide) ?_
      exact fin kc ks σ g _ (by omega) (by omega)
    · have hi5 : i + 5 ≤ L0 := by
        rw [Int32.lt_iff_toInt_lt, pk_sub_toInt (by omega) (by decide), nI_toInt (by omega)] at q
        omega
      refine sl_aload_n Cx dL_law_32 rfl ?_
      refine sl_iload Cx dL_law_33 rfl ?_
      refine sl_sld Cx hS hbl hbA hL dL_law_35 (n := i) rfl (by omega) ?_
      refine sl_bipush Cx (v := nI 31) dL_law_36 (by decide) ?_
      obtain ⟨k, hk, ek⟩ := and31 (xs i)
      refine sl_iand Cx (z := nI k) dL_law_38 ek ?_
      have cont : ∀ σ' g' S', sl_iv σ' g' a S' → ce_WL G A p e s m args below meth c Z room_1 (kc + 1) (ks + 6) 1931 [some (.ref b0), some (.ref a), some (.ref (a + 411)), some (.ref (a + 422)), some (.int (nI (i))), none, none] [] σ' g' := fun σ' g' S' iv' => by
        refine sl_iinc Cx (v := nI (i + 5)) dL_law_1931 rfl (ce_inc5 _) (Nat.le_of_ble_eq_true rfl) rfl ?_
        refine sl_goto Cx (tgt := 23) dL_law_1934 (by decide) ?_
        exact ih (i + 5) (kc + 1) (ks + 6) σ' g' S' (by omega) hi5 (by omega) (by omega) iv'
      have hc9 : k = 0 ∨ k = 1 ∨ k = 2 ∨ k = 3 ∨ k = 4 ∨ k = 5 ∨ k = 6 ∨ k = 7 ∨ k = 8 ∨ k = 9 ∨ k = 10 ∨ k = 11 ∨ k = 12 ∨ k = 13 ∨ k = 14 ∨ k = 15 ∨ k = 16 ∨ k = 17 ∨ k = 18 ∨ k = 19 ∨ k = 20 ∨ k = 21 ∨ k = 22 ∨ k = 23 ∨ k = 24 ∨ k = 25 ∨ k = 26 ∨ k = 27 ∨ k = 28 ∨ k = 29 ∨ k = 30 ∨ k = 31 := by omega
      rcases hc9 with rfl | rfl | rfl | rfl | rfl | rfl | rfl | rfl | rfl | rfl | rfl | rfl | rfl | rfl | rfl | rfl | rfl | rfl | rfl | rfl | rfl | rfl | rfl | rfl | rfl | rfl | rfl | rfl | rfl | rfl | rfl | rfl
      · refine sl_tableIn Cx (off := 129) (tgt := 168) dL_law_39 (by decide) (by decide) (by decide) (by decide) ?_
        exact c_0 Cx hS hbl hbA hL hi5 (by omega) (by omega) iv cont
      · refine sl_tableIn Cx (off := 185) (tgt := 224) dL_law_39 (by decide) (by decide) (by decide) (by decide) ?_
        exact c_1 Cx hS hbl hbA hL hi5 (by omega) (by omega) iv cont
      · refine sl_tableIn Cx (off := 198) (tgt := 237) dL_law_39 (by decide) (by decide) (by decide) (by decide) ?_
        exact c_2 Cx hS hbl hbA hL hi5 (by omega) (by omega) iv cont
      · refine sl_tableIn Cx (off := 211) (tgt := 250) dL_law_39 (by decide) (by decide) (by decide) (by decide) ?_
        exact c_3 Cx hS hbl hbA hL hi5 (by omega) (by omega) iv cont
      · refine sl_tableIn Cx (off := 255) (tgt := 294) dL_law_39 (by decide) (by decide) (by decide) (by decide) ?_
        exact c_4 Cx hS hbl hbA hL hi5 (by omega) (by omega) iv cont
      · refine sl_tableIn Cx (off := 311) (tgt := 350) dL_law_39 (by decide) (by decide) (by decide) (by decide) ?_
        exact c_5 Cx hS hbl hbA hL hi5 (by omega) (by omega) iv cont
      · refine sl_tableIn Cx (off := 379) (tgt := 418) dL_law_39 (by decide) (by decide) (by decide) (by decide) ?_
        exact c_6 Cx hS hbl hbA hL hi5 (by omega) (by omega) iv cont
      · refine sl_tableIn Cx (off := 447) (tgt := 486) dL_law_39 (by decide) (by decide) (by decide) (by decide) ?_
        exact c_7 Cx hS hbl hbA hL hi5 (by omega) (by omega) iv cont
      · refine sl_tableIn Cx (off := 515) (tgt := 554) dL_law_39 (by decide) (by decide) (by decide) (by decide) ?_
        exact c_8 Cx hS hbl hbA hL hi5 (by omega) (by omega) iv cont
      · refine sl_tableIn Cx (off := 595) (tgt := 634) dL_law_39 (by decide) (by decide) (by decide) (by decide) ?_
        exact c_9 Cx hS hbl hbA hL hi5 (by omega) (by omega) iv cont
      · refine sl_tableIn Cx (off := 651) (tgt := 690) dL_law_39 (by decide) (by decide) (by decide) (by decide) ?_
        exact c_10 Cx hS hbl hbA hL hi5 (by omega) (by omega) iv cont
      · refine sl_tableIn Cx (off := 719) (tgt := 758) dL_law_39 (by decide) (by decide) (by decide) (by decide) ?_
        exact c_11 Cx hS hbl hbA hL hi5 (by omega) (by omega) iv cont
      · refine sl_tableIn Cx (off := 775) (tgt := 814) dL_law_39 (by decide) (by decide) (by decide) (by decide) ?_
        exact c_12 Cx hS hbl hbA hL hi5 (by omega) (by omega) iv cont
      · refine sl_tableIn Cx (off := 855) (tgt := 894) dL_law_39 (by decide) (by decide) (by decide) (by decide) ?_
        exact c_13 Cx hS hbl hbA hL hi5 (by omega) (by omega) iv cont
      · refine sl_tableIn Cx (off := 911) (tgt := 950) dL_law_39 (by decide) (by decide) (by decide) (by decide) ?_
        exact c_14 Cx hS hbl hbA hL hi5 (by omega) (by omega) iv cont
      · refine sl_tableIn Cx (off := 967) (tgt := 1006) dL_law_39 (by decide) (by decide) (by decide) (by decide) ?_
        exact c_15 Cx hS hbl hbA hL hi5 (by omega) (by omega) iv cont
      · refine sl_tableIn Cx (off := 1047) (tgt := 1086) dL_law_39 (by decide) (by decide) (by decide) (by decide) ?_
        exact c_16 Cx hS hbl hbA hL hi5 (by omega) (by omega) iv cont
      · refine sl_tableIn Cx (off := 1139) (tgt := 1178) dL_law_39 (by decide) (by decide) (by decide) (by decide) ?_
        exact c_17 Cx hS hbl hbA hL hi5 (by omega) (by omega) iv cont
      · refine sl_tableIn Cx (off := 1207) (tgt := 1246) dL_law_39 (by decide) (by decide) (by decide) (by decide) ?_
        exact c_18 Cx hS hbl hbA hL hi5 (by omega) (by omega) iv cont
      · refine sl_tableIn Cx (off := 1287) (tgt := 1326) dL_law_39 (by decide) (by decide) (by decide) (by decide) ?_
        exact c_19 Cx hS hbl hbA hL hi5 (by omega) (by omega) iv cont
      · refine sl_tableIn Cx (off := 1343) (tgt := 1382) dL_law_39 (by decide) (by decide) (by decide) (by decide) ?_
        exact c_20 Cx hS hbl hbA hL hi5 (by omega) (by omega) iv cont
      · refine sl_tableIn Cx (off := 1387) (tgt := 1426) dL_law_39 (by decide) (by decide) (by decide) (by decide) ?_
        exact c_21 Cx hS hbl hbA hL hi5 (by omega) (by omega) iv cont
      · refine sl_tableIn Cx (off := 1455) (tgt := 1494) dL_law_39 (by decide) (by decide) (by decide) (by decide) ?_
        exact c_22 Cx hS hbl hbA hL hi5 (by omega) (by omega) iv cont
      · refine sl_tableIn Cx (off := 1511) (tgt := 1550) dL_law_39 (by decide) (by decide) (by decide) (by decide) ?_
        exact c_23 Cx hS hbl hbA hL hi5 (by omega) (by omega) iv cont
      · refine sl_tableIn Cx (off := 1524) (tgt := 1563) dL_law_39 (by decide) (by decide) (by decide) (by decide) ?_
        exact c_24 Cx hS hbl hbA hL hi5 (by omega) (by omega) iv cont
      · refine sl_tableIn Cx (off := 1580) (tgt := 1619) dL_law_39 (by decide) (by decide) (by decide) (by decide) ?_
        exact c_25 Cx hS hbl hbA hL hi5 (by omega) (by omega) iv cont
      · refine sl_tableIn Cx (off := 1680) (tgt := 1719) dL_law_39 (by decide) (by decide) (by decide) (by decide) ?_
        exact c_26 Cx hS hbl hbA hL hi5 (by omega) (by omega) iv cont
      · refine sl_tableIn Cx (off := 1780) (tgt := 1819) dL_law_39 (by decide) (by decide) (by decide) (by decide) ?_
        exact c_27 Cx hS hbl hbA hL hi5 (by omega) (by omega) iv cont
      · refine sl_tableIn Cx (off := 1836) (tgt := 1875) dL_law_39 (by decide) (by decide) (by decide) (by decide) ?_
        exact c_28 Cx hS hbl hbA hL hi5 (by omega) (by omega) iv cont
      · refine sl_tableOut Cx (tgt := 1931) dL_law_39 (by decide) (by decide) ?_
        exact sl_widen (Nat.le_succ kc) (Nat.le_add_right ks 6) (cont σ g S iv)
      · refine sl_tableOut Cx (tgt := 1931) dL_law_39 (by decide) (by decide) ?_
        exact sl_widen (Nat.le_succ kc) (Nat.le_add_right ks 6) (cont σ g S iv)
      · refine sl_tableOut Cx (tgt := 1931) dL_law_39 (by decide) (by decide) ?_
        exact sl_widen (Nat.le_succ kc) (Nat.le_add_right ks 6) (cont σ g S iv)
set_option maxHeartbeats 2000000 in
set_option maxRecDepth 20000 in
theorem law_0 {G : ce_G} {A : Nat → Prop} {p : Program} {e : Env} {s : State} {m : MethodId} {args : Array Value} {below : List Frame} {meth : Method} {c : Code} {Z : State → Prop} {b0 L0 : Nat} {xs : Nat → Int32} (Cx : ce_CL G A p s m args meth c) (hS : va_X b0 L0 xs s s.heap) (hbl : b0 < s.heap.size) (hbA : ¬ A b0) (hL : L0 ≤ 100000) (h25 : L0 ≤ 2560) (fin : ∀ (kc ks : Nat) (σ : ce_S) (g : ce_D) (L : List (Option Value)), kc ≤ 601024 → ks ≤ 7293034 → ce_WL G A p e s m args below meth c Z room_1 kc ks 1938 L [.int 1] σ g) (σ0 : ce_S) (g0 : ce_D) : ce_WL G A p e s m args below meth c Z room_1 0 0 0 [some (.ref b0), none, none, none, none, none, none] [] σ0 g0 := by
  obtain ⟨a, ha⟩ : ∃ a, σ0.1 = a := ⟨_, rfl⟩
  refine sl_new Cx (ci := 7) dL_law_0 kRL_8 wi_X7 wn_X7 rfl (Nat.le_of_ble_eq_true rfl) (Nat.le_of_ble_eq_true rfl) ?_
  have n1 : ci_sh (ce_nw σ0 (7 + 1) 0) (ce_nd σ0 g0) a (ci_o 8) 1 := sh_new1 _ ha
  rw [ha]
  generalize ce_nw σ0 (7 + 1) 0 = u1 at n1 ⊢
  generalize ce_nd σ0 g0 = v1 at n1 ⊢
  refine sl_dup Cx dL_law_3 rfl ?_
  refine sl_callI Cx dL_law_4 hX7_init kRL_100 (m_X7_init a n1) rfl rfl (by decide) (Nat.le_of_ble_eq_true rfl) (Nat.le_of_ble_eq_true rfl) (Nat.le_of_ble_eq_true rfl) (fun v s1 g1 h1 => ?_)
  obtain ⟨rfl, T1, X1, R1, _⟩ := h1
  refine sl_astore_n Cx dL_law_7 (Nat.le_of_ble_eq_true rfl) rfl ?_
  refine sl_new Cx (ci := 8) dL_law_8 kRL_101 wi_X8 wn_X8 rfl (Nat.le_of_ble_eq_true rfl) (Nat.le_of_ble_eq_true rfl) ?_
  have n2 : ci_sh (ce_nw s1 (8 + 1) 0) (ce_nd s1 g1) (a + 411) (ci_o 9) 1 := sh_new1 _ T1
  have b2 : ci_sb (a + 411) s1 g1 (ce_nw s1 (8 + 1) 0) (ce_nd s1 g1) := ci_sb.nw (by omega)
  rw [T1]
  generalize ce_nw s1 (8 + 1) 0 = u2 at n2 b2 ⊢
  generalize ce_nd s1 g1 = v2 at n2 b2 ⊢
  refine sl_dup Cx dL_law_11 rfl ?_
  refine sl_callI Cx dL_law_12 hX8_init kRL_103 (m_X8_init (a + 411) n2) rfl rfl (by decide) (Nat.le_of_ble_eq_true rfl) (Nat.le_of_ble_eq_true rfl) (Nat.le_of_ble_eq_true rfl) (fun v s2 g2 h2 => ?_)
  obtain ⟨rfl, q2, k2⟩ := h2
  have T2 : s2.1 = a + 422 := q2.1
  have b3 := b2.tr k2
  refine sl_astore_n Cx dL_law_15 (Nat.le_of_ble_eq_true rfl) rfl ?_
  refine sl_iconst Cx (v := nI 1) dL_law_16 (by decide) ?_
  refine sl_newaJ Cx (n := 1) dL_law_17 wa_long rfl (by decide) (Nat.le_of_ble_eq_true rfl) (Nat.le_of_ble_eq_true rfl) ?_
  have b4 : ci_sb (a + 422) s2 g2 (ce_nw s2 14 1) (ce_nd s2 g2) := ci_sb.nw (by omega)
  have hw : ce_kd (ce_nw s2 14 1) (a + 422) = 14 ∧ ce_ln (ce_nw s2 14 1) (a + 422) = 1 := by
    rw [← T2]
    exact ⟨ce_nw_kd _ _ _, ce_nw_ln _ _ _⟩
  rw [T2]
  generalize ce_nw s2 14 1 = s3 at b4 hw ⊢
  generalize ce_nd s2 g2 = g3 at b4 ⊢
  refine sl_astore_n Cx dL_law_19 (Nat.le_of_ble_eq_true rfl) rfl ?_
  refine sl_iconst Cx (v := nI 0) dL_law_20 (by decide) ?_
  refine sl_istore Cx dL_law_21 (Nat.le_of_ble_eq_true rfl) rfl ?_
  have p4 := q2.2.sb b4 (by omega)
  have b5 := b3.tr (b4.mo (show a + 411 ≤ a + 422 by omega))
  exact w_law Cx hS hbl hbA hL h25 fin (L0 + 1) 0 _ _ s3 g3 ks_0 (by omega) (Nat.zero_le _) (Nat.le_of_ble_eq_true rfl) (Nat.le_of_ble_eq_true rfl) ⟨⟨_, LX_sb X1 b5 (Nat.le_refl _), rX_far R1 X1.2.2.2.1.2.2.2 (fun x _ h2 => (b5 x h2).2.2.2.2)⟩, ci_LM p4, hw, rM_0 p4, ks_0_ok, oz_0⟩
