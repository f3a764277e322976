theorem sh_new1 {σ : ce_S} {g : ce_D} {c : Nat} (K : Nat) (h : σ.1 = c) : ci_sh (ce_nw σ K 0) (ce_nd σ g) c (ci_o K) 1 := by
  refine ⟨by show σ.1 + 1 = _; omega, fun j hj => ?_⟩
  have e : c + j = σ.1 := by omega
  rw [e]
  exact ⟨ce_nw_kd _ _ _, ce_nw_ln _ _ _, fun k => by rw [ce_nw_gr]; rfl, ce_nd_at _ _⟩
def ci_f7 : Nat → Nat
  | 0 => 1
  | 1 => 21
  | 2 => 63
  | 3 => 345
  | 4 => 366
  | 5 => 369
  | _ => 410
def ci_fs (σ : ce_S) (a n : Nat) : Prop := ce_kd σ a = 7 + 1 ∧ ∀ j, j < n → ce_gr σ a j = some (a + ci_f7 j)
theorem ci_fs.st {σ σ2 σ3 : ce_S} {g g2 : ce_D} {a n t : Nat} (h : ci_fs σ a n) (b : ci_sb t σ g σ2 g2) (e : a < t) (e3 : ce_upR σ2 a n (some (a + ci_f7 n)) = σ3) : ci_fs σ3 a (n + 1) := by
  subst e3
  refine ⟨(b a e).1.trans h.1, fun j hj => ?_⟩
  rw [ce_upR_eq]
  by_cases q : j = n
  · rw [if_pos q, q]
  · rw [if_neg q, (b a e).2.2.1]; exact h.2 j (by omega)
theorem ci_fs.sm {σ σ1 : ce_S} {a n s : Nat} (h : ci_fs σ a n) (k : ce_sm s σ σ1) (e : s ≠ a) : ci_fs σ1 a n := ⟨by rw [k.2.1]; exact h.1, fun j hj => by rw [k.2.2.2.2 a (Ne.symm e)]; exact h.2 j hj⟩
theorem ci_fs.sb {σ σ1 : ce_S} {g g1 : ce_D} {a n t : Nat} (h : ci_fs σ a n) (b : ci_sb t σ g σ1 g1) (e : a < t) : ci_fs σ1 a n := ⟨(b a e).1.trans h.1, fun j hj => by rw [(b a e).2.2.1]; exact h.2 j hj⟩
def ci_hi (σ : ce_S) (g : ce_D) (h : Nat) : Prop := (ce_kd σ h = 1 + 1 ∧ ce_gr σ h 0 = some (h + 1) ∧ ce_LA σ 13 (h + 1) 14) ∧ ci_cl σ (h + 1) (h + 2) 14 ∧ g h = fun _ => 0
theorem ci_cl.sb {σ σ1 : ce_S} {g g1 : ce_D} {s c n t : Nat} (h : ci_cl σ s c n) (b : ci_sb t σ g σ1 g1) (e : s < t ∧ c + 20 * n ≤ t) : ci_cl σ1 s c n := fun k hk => ⟨by rw [(b s e.1).2.2.1]; exact (h k hk).1, (h k hk).2.sb b (by omega)⟩
theorem ci_cl.sm {σ σ1 : ce_S} {s c n x : Nat} (h : ci_cl σ s c n) (k : ce_sm x σ σ1) (e : x ≠ s ∧ (x < c ∨ c + 20 * n ≤ x)) : ci_cl σ1 s c n := fun j hj => ⟨by rw [k.2.2.2.2 s (Ne.symm e.1)]; exact (h j hj).1, (h j hj).2.sm k (by omega)⟩
theorem ci_hi.sb {σ σ1 : ce_S} {g g1 : ce_D} {h t : Nat} (k : ci_hi σ g h) (b : ci_sb t σ g σ1 g1) (e : h + 282 ≤ t) : ci_hi σ1 g1 h := ⟨⟨(b h (by omega)).1.trans k.1.1, by rw [(b h (by omega)).2.2.1]; exact k.1.2.1, (b _ (by omega)).1.trans k.1.2.2.1, (b _ (by omega)).2.1.trans k.1.2.2.2⟩, k.2.1.sb b (by omega), by rw [(b h (by omega)).2.2.2.2]; exact k.2.2⟩
theorem ci_hi.sm {σ σ1 : ce_S} {g : ce_D} {h x : Nat} (k : ci_hi σ g h) (b : ce_sm x σ σ1) (e : x < h ∨ h + 282 ≤ x) : ci_hi σ1 g h := ⟨⟨by rw [b.2.1]; exact k.1.1, by rw [b.2.2.2.2 h (by omega)]; exact k.1.2.1, k.1.2.2.sm b⟩, k.2.1.sm b (by omega), k.2.2⟩
theorem ci_pt.sm {σ σ1 : ce_S} {g : ce_D} {c n x : Nat} {S : ci_T} (h : ci_pt σ g c S n) (b : ce_sm x σ σ1) (e : x < c ∨ c + n ≤ x) : ci_pt σ1 g c S n := fun i hi => by
  rw [b.2.1, b.2.2.1, b.2.2.2.2 (c + i) (by omega)]
  exact h i hi
/-- what is made before the slots -/
def ci_7 (σ : ce_S) (g : ce_D) (a : Nat) : Prop := ci_pt σ g (a + 1) ci_X0_init 20 ∧ ci_pt σ g (a + 21) ci_X6_init 42 ∧ ci_hi σ g (a + 63) ∧ ci_pt σ g (a + 345) ci_X4_init 21 ∧ ci_pt σ g (a + 366) ci_X2_init 3
theorem ci_7.sb {σ σ1 : ce_S} {g g1 : ce_D} {a t : Nat} (h : ci_7 σ g a) (b : ci_sb t σ g σ1 g1) (e : a + 369 ≤ t) : ci_7 σ1 g1 a := ⟨h.1.sb b (by omega), h.2.1.sb b (by omega), h.2.2.1.sb b (by omega), h.2.2.2.1.sb b (by omega), h.2.2.2.2.sb b (by omega)⟩
theorem ci_7.sm {σ σ1 : ce_S} {g : ce_D} {a x : Nat} (h : ci_7 σ g a) (b : ce_sm x σ σ1) (e : x ≤ a ∨ a + 369 ≤ x) : ci_7 σ1 g a := ⟨h.1.sm b (by omega), h.2.1.sm b (by omega), h.2.2.1.sm b (by omega), h.2.2.2.1.sm b (by omega), h.2.2.2.2.sm b (by omega)⟩
theorem ci_sub {σ : ce_S} {g : ce_D} {c n m q : Nat} {S T : ci_T} (h : ci_pt σ g c S n) (e : m + q ≤ n) (k : ∀ i, i < q → S (m + i) = ((T i).1, (T i).2.1, fun y => ((T i).2.2 y).map (fun j => m + j))) : ci_pt σ g (c + m) T q := fun i hi => by
  obtain ⟨a1, a2, a3, a4⟩ := h (m + i) (by omega)
  rw [k i hi] at a1 a2 a3
  rw [Nat.add_assoc]
  refine ⟨a1, a2, fun y => ?_, a4⟩
  rw [a3 y]
  dsimp only
  cases (T i).2.2 y with
  | none => rfl
  | some j => show some (c + (m + j)) = some (c + m + j); rw [Nat.add_assoc]
theorem ci_in_k {S T : ci_T} {m i : Nat} : ci_in S m T (m + i) = ((T i).1, (T i).2.1, fun y => ((T i).2.2 y).map (fun j => m + j)) := by
  unfold ci_in
  rw [if_neg (by omega), Nat.add_sub_cancel_left]
theorem ci_fld_k {S : ci_T} {k j x : Nat} (h : x ≠ 0) : ci_fld S 0 k j x = S x := if_neg h
theorem ci_add_k {S : ci_T} {n K len x : Nat} (h : x ≠ n) : ci_add S n K len x = S x := if_neg h
theorem ci_in_o {S T : ci_T} {m x : Nat} (h : x < m) : ci_in S m T x = S x := if_pos h
def ks_0 : ks_S := ((kv_0, fun _ => 0), (0, fun _ => kv_0, fun _ _ => 0), ((fun _ => false, fun _ => kv_0, fun _ _ => 0), (0, fun _ => 0)))
theorem ks_0_ok : ks_ok ks_0 := ⟨cl_0, fun i hi => absurd hi (Nat.not_lt_zero i), fun s _ hF => (by cases hF), fun i hi => absurd hi (Nat.not_lt_zero i)⟩
theorem ci_fin {σ : ce_S} {g : ce_D} {a : Nat} (h : ci_7 σ g a) (f : ci_fs σ a 7) (sl : ce_LA σ 13 (a + 369) 2) (cl : ci_cl σ (a + 369) (a + 370) 2) (fi : ce_LA σ 12 (a + 410) 2) (z : g (a + 410) = fun _ => 0) : ce_LX σ a (fun i => a + 63 + 2 + 20 * i) ∧ ce_rX g a (fun i => a + 63 + 2 + 20 * i) ks_0 := by
  obtain ⟨h0, h6, hh, h4, h2⟩ := h
  have c0 := ci_LC h0
  have c4 := ci_LC (ci_sub (m := 1) (q := 20) (T := ci_X0_init) h4 (by decide) (fun i hi => by unfold ci_X4_init; rw [ci_fld_k (by omega)]; exact ci_in_k))
  have c6 := ci_LC (ci_sub (m := 2) (q := 20) (T := ci_X0_init) h6 (by decide) (fun i hi => by unfold ci_X6_init; rw [ci_fld_k (by omega), ci_in_o (by omega), ci_add_k (by omega), ci_fld_k (by omega)]; exact ci_in_k))
  have c7 := ci_LC (ci_sub (m := 22) (q := 20) (T := ci_X0_init) h6 (by decide) (fun i hi => by unfold ci_X6_init; rw [ci_fld_k (by omega)]; exact ci_in_k))
  refine ⟨⟨f.1, ⟨f.2 0 (by decide), f.2 1 (by decide), f.2 2 (by decide), f.2 3 (by decide), f.2 4 (by decide), f.2 5 (by decide), f.2 6 (by decide)⟩, c0.1, ⟨hh.1, fun i hi => (hh.2.1 i hi).1, fun i hi => (hh.2.1 i hi).2, ⟨fun i hi => ⟨i, hi, rfl⟩, fun i j _ _ e => by show a + 63 + 2 + 20 * i ≠ a + 63 + 2 + 20 * j; omega⟩⟩,
    ⟨(h4 0 (by decide)).1, ci_gr (j := 1) h4 0 (by decide) rfl, c4.1⟩, ⟨(h6 0 (by decide)).1, ⟨ci_gr (j := 1) h6 0 (by decide) rfl, ci_gr (j := 2) h6 0 (by decide) rfl, ci_gr (j := 22) h6 0 (by decide) rfl⟩, ci_LA h6 1 (by decide) ⟨rfl, rfl⟩, c6.1, c7.1⟩, ⟨(h2 0 (by decide)).1, ⟨ci_gr (j := 1) h2 0 (by decide) rfl, ci_gr (j := 2) h2 0 (by decide) rfl⟩, ci_LA h2 1 (by decide) ⟨rfl, rfl⟩, ci_LA h2 2 (by decide) ⟨rfl, rfl⟩⟩, sl, fun s hs => (cl s hs).1, fun s hs => (cl s hs).2, fi⟩,
    c0.2, ⟨Nat.zero_le _, by rw [hh.2.2]; rfl, fun i hi => absurd hi (Nat.not_lt_zero i)⟩, ⟨fun s _ => by rw [z]; rfl, fun s _ hF => (by cases hF)⟩, Nat.zero_le _, ci_g0 h6 0 (by decide) 1, fun i hi => absurd hi (Nat.not_lt_zero i), c7.2⟩
set_option maxHeartbeats 2000000 in
set_option maxRecDepth 20000 in
theorem w_X7_init {s0 : ce_S} {g0 : ce_D} (a : Nat) : ∀ (n9 i : Nat) (s1 : ce_S) (g1 : ce_D), 2 - i < n9 → i ≤ 2 → (s1.1 = a + 370 + 20 * (i) ∧ (ci_fs s1 a 6 ∧ ce_LA s1 13 (a + 369) 2) ∧ ci_cl s1 (a + 369) (a + 370) (i) ∧ ci_7 s1 g1 a ∧ ci_sb a s0 g0 s1 g1) → ce_WP (ce_ri 4 410 5300) mX7_init (369 + 20 * i) (4834 + 232 * i) 69 [some (.ref (a)), some (.int (nI (i)))] [] s1 g1 (ce_sv (fun s1 g1 => s1.1 = a + 411 ∧ ce_LX s1 a (fun i => a + 63 + 2 + 20 * i) ∧ ce_rX g1 a (fun i => a + 63 + 2 + 20 * i) ks_0 ∧ ci_sb a s0 g0 s1 g1)) ce_no := by
  intro n9
  induction n9 with
  | zero =>
    intros
    omega
  | succ n9 ih =>
    intro i s1 g1 hm hi hI
    have ht := hI.1
    refine ce_iload_n dX7_init_69 rfl ?_
    refine ce_iconst (v := nI (2)) dX7_init_70 (by decide) ?_
    refine ce_icmp_geN (tgt := 93) dX7_init_71 (by decide) rfl rfl (by omega) (by omega) (fun c_18 => ?_) (fun c_18 => ?_)
    · have ei : i = 2 := by omega
      subst ei
      have ht2 : s1.1 = a + 410 := ht
      refine ce_aload_n dX7_init_93 rfl ?_
      refine ce_iconst (v := nI (2)) dX7_init_94 (by decide) ?_
      refine ce_newaZ dX7_init_95 wa_boolean rfl (Nat.le_of_ble_eq_true rfl) (Nat.le_of_ble_eq_true rfl) (Nat.le_of_ble_eq_true rfl) ?_
      have b1 : ci_sb (a + 410) s1 g1 (ce_nw s1 12 2) (ce_nd s1 g1) := ci_sb.nw (by omega)
      have n1 : ce_LA (ce_nw s1 12 2) 12 (a + 410) 2 ∧ (ce_nd s1 g1) (a + 410) = (fun _ => 0) := by
        rw [← ht2]; exact ⟨⟨ce_nw_kd _ _ _, ce_nw_ln _ _ _⟩, ce_nd_at _ _⟩
      have n2 : (ce_nw s1 12 2).1 = a + 411 := by show s1.1 + 1 = _; omega
      rw [ht2]
      generalize ce_nw s1 12 2 = s2 at b1 n1 n2 ⊢
      generalize ce_nd s1 g1 = g2 at b1 n1 ⊢
      refine ce_putF dX7_init_97 pRX7_48 (show ce_kd s2 a = 7 + 1 by rw [(b1 a (by omega)).1]; exact hI.2.1.1.1) rfl ?_
      generalize e3 : ce_upR s2 a 6 (some (a + 410)) = s3
      have em : ce_sm a s2 s3 := e3 ▸ ce_sm.up
      have w := ci_fin ((hI.2.2.2.1.sb b1 (by omega)).sm em (by omega)) (hI.2.1.1.st b1 (by omega) e3) (ce_LA.sm (σ := s2) (show ce_LA s2 13 (a + 369) 2 from ⟨(b1 _ (by omega)).1.trans hI.2.1.2.1, (b1 _ (by omega)).2.1.trans hI.2.1.2.2⟩) em) ((hI.2.2.1.sb b1 (by omega)).sm em (by omega)) (n1.1.sm em) n1.2
      exact ce_vret dX7_init_100 rfl (Nat.le_of_ble_eq_true rfl) (Nat.le_of_ble_eq_true rfl) ⟨rfl, by rw [← e3]; exact n2, w.1, w.2, hI.2.2.2.2.tr ((b1.mo (by omega)).tr (e3 ▸ ci_sb.up (Nat.le_refl a)))⟩
    · refine ce_aload_n dX7_init_74 rfl ?_
      refine ce_getR dX7_init_75 fRX7_44 hI.2.1.1.1 (show ce_gr s1 a 5 = some (a + 369) from hI.2.1.1.2 5 (by decide)) ?_
      refine ce_iload_n dX7_init_78 rfl ?_
      refine ce_new (ci := 0) dX7_init_79 kRX7_7 wi_X0 wn_X0 rfl (show _ + 1 ≤ _ by show _ ≤ 410; omega) (show _ + 14 ≤ _ by show _ ≤ 5300; omega) ?_
      have b1 : ci_sb (a + 370 + 20 * i) s1 g1 (ce_nw s1 (0 + 1) 0) (ce_nd s1 g1) := ci_sb.nw (by omega)
      have n1 : ci_sh (ce_nw s1 (0 + 1) 0) (ce_nd s1 g1) (a + 370 + 20 * i) (ci_o 1) 1 := by
        have e1 : s1.1 = a + 370 + 20 * i := ht
        refine ⟨by show s1.1 + 1 = _; omega, fun j hj => ?_⟩
        rw [show j = 0 by omega, Nat.add_zero, ← e1]
        exact ⟨ce_nw_kd _ _ _, ce_nw_ln _ _ _, fun k => by simp only [Nat.add_zero, ce_nw_gr]; rfl, ce_nd_at _ _⟩
      rw [ht]
      generalize ce_nw s1 (0 + 1) 0 = s2 at b1 n1 ⊢
      generalize ce_nd s1 g1 = g2 at b1 n1 ⊢
      refine ce_dup dX7_init_82 rfl ?_
      refine ce_cINs dX7_init_83 hX0_init kRX7_9 (m_X0_init (a + 370 + 20 * i) n1) rfl rfl (by decide) (Nat.le_of_ble_eq_true rfl) (show _ + 19 ≤ _ by show _ ≤ 410; omega) (show _ + 218 ≤ _ by show _ ≤ 5300; omega) (fun s3 g3 q3 => ?_)
      have b := b1.tr q3.2
      refine ce_aast dX7_init_86 (show ce_kd s3 (a + 369) = 13 by rw [(b _ (by omega)).1]; exact hI.2.1.2.1) (ci_LC q3.1.2).1.1 rfl (show ce_ln s3 (a + 369) = 2 by rw [(b _ (by omega)).2.1]; exact hI.2.1.2.2) (by omega) (by decide) ?_
      generalize e4 : ce_upR s3 (a + 369) i (some (a + 370 + 20 * i)) = s4
      refine ce_iinc (v := nI (i + 1)) dX7_init_87 rfl (ce_inc1 _) (Nat.le_of_ble_eq_true rfl) rfl ?_
      refine ce_goto (tgt := 69) dX7_init_90 (by decide) ?_
      have em : ce_sm (a + 369) s3 s4 := e4 ▸ ce_sm.up
      have hz : s4.1 = a + 370 + 20 * (i + 1) := by rw [← e4]; exact q3.1.1.trans (by omega)
      have e8 := ih (i + 1) s4 g3 (by omega) (by omega) ⟨hz, ⟨(hI.2.1.1.sb b (by omega)).sm em (by omega), ce_LA.sm (σ := s3) (show ce_LA s3 13 (a + 369) 2 from ⟨(b _ (by omega)).1.trans hI.2.1.2.1, (b _ (by omega)).2.1.trans hI.2.1.2.2⟩) em⟩, hI.2.2.1.st (by omega) b1 q3.2 q3.1.2 e4, (hI.2.2.2.1.sb b (by omega)).sm em (by omega), hI.2.2.2.2.tr ((b.mo (by omega)).tr (e4 ▸ ci_sb.up (by omega)))⟩
      rw [show 369 + 20 * (i + 1) = 369 + 20 * i + 1 + 19 by omega, show 4834 + 232 * (i + 1) = 4834 + 232 * i + 14 + 218 by omega] at e8
      exact e8
set_option maxHeartbeats 2000000 in
set_option maxRecDepth 20000 in
theorem m_X7_init {s0 : ce_S} {g0 : ce_D} (a : Nat) (H0 : ci_sh s0 g0 a (ci_o 8) 1) : ce_CT (ce_ri 4 410 5300) mX7_init [.ref (a)] s0 g0 (ce_sv (fun s1 g1 => s1.1 = a + 411 ∧ ce_LX s1 a (fun i => a + 63 + 2 + 20 * i) ∧ ce_rX g1 a (fun i => a + 63 + 2 + 20 * i) ks_0 ∧ ci_sb a s0 g0 s1 g1)) ce_no := by
  refine ce_enter (by decide) rfl (Nat.le_of_ble_eq_true rfl) (L := [some (.ref a), none]) rfl ?_
  refine ce_aload_n dX7_init_0 rfl ?_
  refine ce_objInit dX7_init_1 kRX7_1 wx_oi wx_oc (by decide) (Nat.le_of_ble_eq_true rfl) ?_
  have T0 : s0.1 = a + 1 := H0.1
  have F0 : ci_fs s0 a 0 := ⟨(H0.2 0 (by decide)).1, fun j hj => absurd hj (Nat.not_lt_zero j)⟩
  have B0 := ci_sb.rf (t := a) (σ := s0) (g := g0)
  refine ce_aload_n dX7_init_4 rfl ?_
  refine ce_new (ci := 0) dX7_init_5 kRX7_7 wi_X0 wn_X0 rfl (Nat.le_of_ble_eq_true rfl) (Nat.le_of_ble_eq_true rfl) ?_
  have b1 : ci_sb (a + 1) s0 g0 (ce_nw s0 (0 + 1) 0) (ce_nd s0 g0) := ci_sb.nw (by omega)
  have n1 : ci_sh (ce_nw s0 (0 + 1) 0) (ce_nd s0 g0) (a + 1) (ci_o 1) 1 := sh_new1 _ T0
  rw [T0]
  generalize ce_nw s0 (0 + 1) 0 = u1 at b1 n1 ⊢
  generalize ce_nd s0 g0 = v1 at b1 n1 ⊢
  refine ce_dup dX7_init_8 rfl ?_
  refine ce_cINs dX7_init_9 hX0_init kRX7_9 (m_X0_init (a + 1) n1) rfl rfl (by decide) (Nat.le_of_ble_eq_true rfl) (Nat.le_of_ble_eq_true rfl) (Nat.le_of_ble_eq_true rfl) (fun w1 g1 q1 => ?_)
  refine ce_putF dX7_init_12 pRX7_10 (show ce_kd w1 a = 7 + 1 by rw [((q1.2) a (by omega)).1, (b1 a (by omega)).1]; exact F0.1) rfl ?_
  generalize e1 : ce_upR w1 a 0 (some (a + 1)) = s1
  have em1 : ce_sm a w1 s1 := e1 ▸ ce_sm.up
  have c1 := b1.tr (q1.2)
  have T1 : s1.1 = a + 21 := by rw [← e1]; exact q1.1.1
  have F1 := F0.st c1 (by omega) e1
  have B1 := B0.tr ((c1.mo (by omega)).tr (e1 ▸ ci_sb.up (g := g1) (Nat.le_refl a)))
  have P0_1 := q1.1.2.sm em1 (by omega)
  refine ce_aload_n dX7_init_15 rfl ?_
  refine ce_new (ci := 6) dX7_init_16 kRX7_16 wi_X6 wn_X6 rfl (Nat.le_of_ble_eq_true rfl) (Nat.le_of_ble_eq_true rfl) ?_
  have b2 : ci_sb (a + 21) s1 g1 (ce_nw s1 (6 + 1) 0) (ce_nd s1 g1) := ci_sb.nw (by omega)
  have n2 : ci_sh (ce_nw s1 (6 + 1) 0) (ce_nd s1 g1) (a + 21) (ci_o 7) 1 := sh_new1 _ T1
  rw [T1]
  generalize ce_nw s1 (6 + 1) 0 = u2 at b2 n2 ⊢
  generalize ce_nd s1 g1 = v2 at b2 n2 ⊢
  refine ce_dup dX7_init_19 rfl ?_
  refine ce_cINs dX7_init_20 hX6_init kRX7_18 (m_X6_init (a + 21) n2) rfl rfl (by decide) (Nat.le_of_ble_eq_true rfl) (Nat.le_of_ble_eq_true rfl) (Nat.le_of_ble_eq_true rfl) (fun w2 g2 q2 => ?_)
  refine ce_putF dX7_init_23 pRX7_19 (show ce_kd w2 a = 7 + 1 by rw [((q2.2) a (by omega)).1, (b2 a (by omega)).1]; exact F1.1) rfl ?_
  generalize e2 : ce_upR w2 a 1 (some (a + 21)) = s2
  have em2 : ce_sm a w2 s2 := e2 ▸ ce_sm.up
  have c2 := b2.tr (q2.2)
  have T2 : s2.1 = a + 63 := by rw [← e2]; exact q2.1.1
  have F2 := F1.st c2 (by omega) e2
  have B2 := B1.tr ((c2.mo (by omega)).tr (e2 ▸ ci_sb.up (g := g2) (Nat.le_refl a)))
  have P0_2 := (P0_1.sb c2 (by omega)).sm em2 (by omega)
  have P6_2 := q2.1.2.sm em2 (by omega)
  refine ce_aload_n dX7_init_26 rfl ?_
  refine ce_new (ci := 1) dX7_init_27 kRX7_23 wi_X1 wn_X1 rfl (Nat.le_of_ble_eq_true rfl) (Nat.le_of_ble_eq_true rfl) ?_
  have b3 : ci_sb (a + 63) s2 g2 (ce_nw s2 (1 + 1) 0) (ce_nd s2 g2) := ci_sb.nw (by omega)
  have n3 : ci_sh (ce_nw s2 (1 + 1) 0) (ce_nd s2 g2) (a + 63) (ci_o 2) 1 := sh_new1 _ T2
  rw [T2]
  generalize ce_nw s2 (1 + 1) 0 = u3 at b3 n3 ⊢
  generalize ce_nd s2 g2 = v3 at b3 n3 ⊢
  refine ce_dup dX7_init_30 rfl ?_
  refine ce_cIs dX7_init_31 hX1_init kRX7_25 (m_X1_init (a + 63) n3) rfl rfl (by decide) (Nat.le_of_ble_eq_true rfl) (Nat.le_of_ble_eq_true rfl) (Nat.le_of_ble_eq_true rfl) (fun w3 g3 q3 => ?_)
  refine ce_putF dX7_init_34 pRX7_26 (show ce_kd w3 a = 7 + 1 by rw [((q3.2.2.2.2) a (by omega)).1, (b3 a (by omega)).1]; exact F2.1) rfl ?_
  generalize e3 : ce_upR w3 a 2 (some (a + 63)) = s3
  have em3 : ce_sm a w3 s3 := e3 ▸ ce_sm.up
  have c3 := b3.tr (q3.2.2.2.2)
  have T3 : s3.1 = a + 345 := by rw [← e3]; exact q3.1
  have F3 := F2.st c3 (by omega) e3
  have B3 := B2.tr ((c3.mo (by omega)).tr (e3 ▸ ci_sb.up (g := g3) (Nat.le_refl a)))
  have P0_3 := (P0_2.sb c3 (by omega)).sm em3 (by omega)
  have P6_3 := (P6_2.sb c3 (by omega)).sm em3 (by omega)
  have P1_3 : ci_hi s3 g3 (a + 63) := (show ci_hi w3 g3 (a + 63) from ⟨q3.2.1, q3.2.2.1, q3.2.2.2.1⟩).sm em3 (by omega)
  refine ce_aload_n dX7_init_37 rfl ?_
  refine ce_new (ci := 4) dX7_init_38 kRX7_30 wi_X4 wn_X4 rfl (Nat.le_of_ble_eq_true rfl) (Nat.le_of_ble_eq_true rfl) ?_
  have b4 : ci_sb (a + 345) s3 g3 (ce_nw s3 (4 + 1) 0) (ce_nd s3 g3) := ci_sb.nw (by omega)
  have n4 : ci_sh (ce_nw s3 (4 + 1) 0) (ce_nd s3 g3) (a + 345) (ci_o 5) 1 := sh_new1 _ T3
  rw [T3]
  generalize ce_nw s3 (4 + 1) 0 = u4 at b4 n4 ⊢
  generalize ce_nd s3 g3 = v4 at b4 n4 ⊢
  refine ce_dup dX7_init_41 rfl ?_
  refine ce_cINs dX7_init_42 hX4_init kRX7_32 (m_X4_init (a + 345) n4) rfl rfl (by decide) (Nat.le_of_ble_eq_true rfl) (Nat.le_of_ble_eq_true rfl) (Nat.le_of_ble_eq_true rfl) (fun w4 g4 q4 => ?_)
  refine ce_putF dX7_init_45 pRX7_33 (show ce_kd w4 a = 7 + 1 by rw [((q4.2) a (by omega)).1, (b4 a (by omega)).1]; exact F3.1) rfl ?_
  generalize e4 : ce_upR w4 a 3 (some (a + 345)) = s4
  have em4 : ce_sm a w4 s4 := e4 ▸ ce_sm.up
  have c4 := b4.tr (q4.2)
  have T4 : s4.1 = a + 366 := by rw [← e4]; exact q4.1.1
  have F4 := F3.st c4 (by omega) e4
  have B4 := B3.tr ((c4.mo (by omega)).tr (e4 ▸ ci_sb.up (g := g4) (Nat.le_refl a)))
  have P0_4 := (P0_3.sb c4 (by omega)).sm em4 (by omega)
  have P6_4 := (P6_3.sb c4 (by omega)).sm em4 (by omega)
  have P1_4 := (P1_3.sb c4 (by omega)).sm em4 (by omega)
  have P4_4 := q4.1.2.sm em4 (by omega)
  refine ce_aload_n dX7_init_48 rfl ?_
  refine ce_new (ci := 2) dX7_init_49 kRX7_37 wi_X2 wn_X2 rfl (Nat.le_of_ble_eq_true rfl) (Nat.le_of_ble_eq_true rfl) ?_
  have b5 : ci_sb (a + 366) s4 g4 (ce_nw s4 (2 + 1) 0) (ce_nd s4 g4) := ci_sb.nw (by omega)
  have n5 : ci_sh (ce_nw s4 (2 + 1) 0) (ce_nd s4 g4) (a + 366) (ci_o 3) 1 := sh_new1 _ T4
  rw [T4]
  generalize ce_nw s4 (2 + 1) 0 = u5 at b5 n5 ⊢
  generalize ce_nd s4 g4 = v5 at b5 n5 ⊢
  refine ce_dup dX7_init_52 rfl ?_
  refine ce_cINs dX7_init_53 hX2_init kRX7_39 (m_X2_init (a + 366) n5) rfl rfl (by decide) (Nat.le_of_ble_eq_true rfl) (Nat.le_of_ble_eq_true rfl) (Nat.le_of_ble_eq_true rfl) (fun w5 g5 q5 => ?_)
  refine ce_putF dX7_init_56 pRX7_40 (show ce_kd w5 a = 7 + 1 by rw [((q5.2) a (by omega)).1, (b5 a (by omega)).1]; exact F4.1) rfl ?_
  generalize e5 : ce_upR w5 a 4 (some (a + 366)) = s5
  have em5 : ce_sm a w5 s5 := e5 ▸ ce_sm.up
  have c5 := b5.tr (q5.2)
  have T5 : s5.1 = a + 369 := by rw [← e5]; exact q5.1.1
  have F5 := F4.st c5 (by omega) e5
  have B5 := B4.tr ((c5.mo (by omega)).tr (e5 ▸ ci_sb.up (g := g5) (Nat.le_refl a)))
  have P0_5 := (P0_4.sb c5 (by omega)).sm em5 (by omega)
  have P6_5 := (P6_4.sb c5 (by omega)).sm em5 (by omega)
  have P1_5 := (P1_4.sb c5 (by omega)).sm em5 (by omega)
  have P4_5 := (P4_4.sb c5 (by omega)).sm em5 (by omega)
  have P2_5 := q5.1.2.sm em5 (by omega)
  refine ce_aload_n dX7_init_59 rfl ?_
  refine ce_iconst (v := nI (2)) dX7_init_60 (by decide) ?_
  refine ce_anew dX7_init_61 kRX7_7 rfl (Nat.le_of_ble_eq_true rfl) (Nat.le_of_ble_eq_true rfl) (Nat.le_of_ble_eq_true rfl) ?_
  have b6 : ci_sb (a + 369) s5 g5 (ce_nw s5 13 2) (ce_nd s5 g5) := ci_sb.nw (by omega)
  have n6 : ce_LA (ce_nw s5 13 2) 13 (a + 369) 2 := by
    have T5x : s5.1 = a + 369 := T5
    rw [← T5x]; exact ⟨ce_nw_kd _ _ _, ce_nw_ln _ _ _⟩
  have t6 : (ce_nw s5 13 2).1 = a + 370 := by show s5.1 + 1 = _; omega
  rw [T5]
  generalize ce_nw s5 13 2 = u6 at b6 n6 t6 ⊢
  generalize ce_nd s5 g5 = g6 at b6 ⊢
  refine ce_putF dX7_init_64 pRX7_44 (show ce_kd u6 a = 7 + 1 by rw [(b6 a (by omega)).1]; exact F5.1) rfl ?_
  generalize e6 : ce_upR u6 a 5 (some (a + 369)) = s6
  have em6 : ce_sm a u6 s6 := e6 ▸ ce_sm.up
  refine ce_iconst (v := nI (0)) dX7_init_67 (by decide) ?_
  refine ce_istore_n dX7_init_68 (Nat.le_of_ble_eq_true rfl) rfl ?_
  exact w_X7_init a 3 0 s6 g6 (by omega) (by omega) ⟨by rw [← e6]; exact t6, ⟨F5.st b6 (by omega) e6, n6.sm em6⟩, fun k hk => absurd hk (Nat.not_lt_zero k), ((show ci_7 s5 g5 a from ⟨P0_5, P6_5, P1_5, P4_5, P2_5⟩).sb b6 (by omega)).sm em6 (by omega), B5.tr ((b6.mo (by omega)).tr (e6 ▸ ci_sb.up (Nat.le_refl a)))⟩
