theorem LX_sb {σ σ1 : ce_S} {g g1 : ce_D} {a t : Nat} {b : Nat → Nat} (h : ce_LX σ a b) (k : ci_sb t σ g σ1 g1) (e : a + 411 ≤ t) : ce_LX σ1 a b := by
  obtain ⟨h1, ⟨r0, r1, r2, r3, r4, r5, r6⟩, hC, ⟨⟨u1, u2, u3⟩, hg, hCs, hb⟩, ⟨l1, l2, l3⟩, ⟨t1, ⟨t2, t3, t4⟩, t5, t6, t7⟩, ⟨p1, ⟨p2, p3⟩, p4, p5⟩, ⟨s1, s2, s3, s4⟩⟩ := h
  have LA : ∀ {K x n : Nat}, ce_LA σ K x n → x < t → ce_LA σ1 K x n := fun h hx => ⟨(k _ hx).1.trans h.1, (k _ hx).2.1.trans h.2⟩
  have KD : ∀ {K x : Nat}, ce_kd σ x = K → x < t → ce_kd σ1 x = K := fun h hx => (k _ hx).1.trans h
  have GR : ∀ {x j : Nat} {o : Option Nat}, ce_gr σ x j = o → x < t → ce_gr σ1 x j = o := fun h hx => (congrFun (k _ hx).2.2.1 _).trans h
  refine ⟨KD h1 (by omega), ⟨GR r0 (by omega), GR r1 (by omega), GR r2 (by omega), GR r3 (by omega), GR r4 (by omega), GR r5 (by omega), GR r6 (by omega)⟩, hC.sb k (by omega), ⟨⟨KD u1 (by omega), GR u2 (by omega), LA u3 (by omega)⟩, fun i hi => GR (hg i hi) (by omega), fun i hi => ?_, hb⟩, ⟨KD l1 (by omega), GR l2 (by omega), l3.sb k (by omega)⟩, ⟨KD t1 (by omega), ⟨GR t2 (by omega), GR t3 (by omega), GR t4 (by omega)⟩, LA t5 (by omega), t6.sb k (by omega), t7.sb k (by omega)⟩, ⟨KD p1 (by omega), ⟨GR p2 (by omega), GR p3 (by omega)⟩, LA p4 (by omega), LA p5 (by omega)⟩, LA s1 (by omega), fun s hs => GR (s2 s hs) (by omega), fun s hs => (s3 s hs).sb k (by omega), LA s4 (by omega)⟩
  have := hb.in hi
  exact (hCs i hi).sb k (by omega)
theorem rX_far {g g1 : ce_D} {a : Nat} {b : Nat → Nat} {S : ks_S} (hr : ce_rX g a b S) (hb : ce_bk (a + 63) b) (hq : ∀ x, a ≤ x → x < a + 411 → g1 x = g x) : ce_rX g1 a b S := by
  obtain ⟨r1, r2, ⟨r3, r4⟩, r5, r6, r7, r8⟩ := hr
  refine ⟨r1.kp (fun i hi => hq _ (by omega) (by omega)), ⟨r2.1, ?_, fun i hi => ?_⟩, ⟨fun s hs => ?_, fun s hs hF => ?_⟩, r5, ?_, fun i hi => ?_, ?_⟩
  · rw [hq _ (by omega) (by omega)]; exact r2.2.1
  · have h14 : sn S ≤ 14 := r2.1
    have hi2 : i < sn S := hi
    have := hb.in (i := i) (by omega)
    exact (r2.2.2 i hi).kp (fun j hj => hq _ (by omega) (by omega))
  · rw [hq _ (by omega) (by omega)]; exact r3 s hs
  · exact (r4 s hs hF).kp (fun i hi => hq _ (by omega) (by omega))
  · rw [hq _ (by omega) (by omega)]; exact r6
  · rw [hq _ (by omega) (by omega)]; exact r7 i hi
  · exact r8.kp (fun i hi => hq _ (by omega) (by omega))
/-! an array of three longs made in the middle of a method, and forgotten again -/
section KZA
variable {ρ : Room} {Y : ce_Y} {kc ks k pc : Nat} {L : List (Option Value)} {st : List Value} {σ : ce_S} {g : ce_D} {Q : Option Value → ce_S → ce_D → Prop} {X : String → ce_S → ce_D → Prop}
theorem ce_fresh (kk : ce_kd σ σ.1 = 0 → ce_WP ρ Y kc ks pc L st σ g Q X) : ce_WP ρ Y kc ks pc L st σ g Q X := fun G A p e s m args below meth c H locs ls C I hl =>
  kk (Decidable.byContradiction fun h => by
    have h1 := ce_lt I.1 h
    have h2 : H.size = σ.1 := I.2.1
    omega) G A p e s m args below meth c H locs ls C I hl
theorem ce_forget {σ' : ce_S} {g' : ce_D} (e1 : σ'.1 = σ.1) (h : ∀ x, ce_kd σ' x ≠ 0 → ce_kd σ' x = ce_kd σ x ∧ ce_ln σ' x = ce_ln σ x ∧ ce_gr σ' x = ce_gr σ x ∧ ce_gl σ' x = ce_gl σ x ∧ g' x = g x) (kk : ce_WP ρ Y kc ks pc L st σ' g' Q X) : ce_WP ρ Y kc ks pc L st σ g Q X := fun G A p e s m args below meth c H locs ls C I hl =>
  kk G A p e s m args below meth c H locs ls C ⟨fun x hx => by
    obtain ⟨h1, h2, h3, h4, h5⟩ := h x hx
    have h6 := I.1 x (by rw [← h1]; exact hx)
    exact ⟨by rw [h1]; exact h6.1, ce_cell_kept h6.2 rfl h1 h2 h3 h4 h5⟩, I.2.1.trans e1.symm, I.2.2.1, I.2.2.2.1, fun q hq => I.2.2.2.2 q (by rw [← (h q hq).1]; exact hq)⟩ hl
theorem kc_newJ (d : decode Y.2.1 pc = .ok (.newarray .long, 2)) (hs : ρ.slots = 6 * ρ.cells) (hcc : k + 1 ≤ ρ.cells) (kk : ce_kd σ σ.1 = 0 → ce_WP ρ Y (k + 1) (6 * (k + 1)) (pc + 2) L (.ref σ.1 :: st) (ce_nw σ 14 3) (ce_nd σ g) Q X) : ce_WP ρ Y k (6 * k) pc L (.int (nI 3) :: st) σ g Q X :=
  ce_fresh (fun hf => ce_newaJ d wa_long rfl (by decide) hcc (by rw [hs]; omega) (fun G A p e s m args below meth c H locs ls C I hl => W.widen (Nat.le_refl _) (by omega) (kk hf G A p e s m args below meth c H locs ls C I hl)))
theorem ce_laldv {a n len : Nat} {i : Int32} {v : Int64} (d : decode Y.2.1 pc = .ok (.laload, 1)) (hk : ce_kd σ a = 14) (hi : i = nI n) (hln : ce_ln σ a = len) (hn : n < len) (hb : len ≤ 100000) (hv : ce_gl σ a n = v) (kk : ce_WP ρ Y kc ks (pc + 1) L (.long v :: st) σ g Q X) : ce_WP ρ Y kc ks pc L (.int i :: .ref a :: st) σ g Q X := by
  subst hv
  exact ce_lald d hk hi hln hn hb kk
end KZA
/-- the object at a holds S; the array of three longs at z holds s0, s1, s2; all else is as it was at (σn, gn) -/
def kz9 (a : Nat) (S : ks_S) (σn : ce_S) (gn : ce_D) (z s0 s1 s2 : Nat) (σ : ce_S) (g : ce_D) : Prop :=
  (σn.1 ≤ σ.1 ∧ ce_kd σ = ce_kd σn ∧ ce_ln σ = ce_ln σn ∧ (∀ x, x ≠ z → ce_gl σ x = ce_gl σn x) ∧ ∀ x, x ≠ a + 64 → ce_gr σ x = ce_gr σn x) ∧ ce_fr a (a + 411) gn g ∧
  ((ce_kd σ z = 14 ∧ ce_ln σ z = 3) ∧ ce_gl σ z 0 = lN s0 ∧ ce_gl σ z 1 = lN s1 ∧ ce_gl σ z 2 = lN s2) ∧ ∃ b, ce_LX σ a b ∧ ce_rX g a b S
section KZB
variable {a : Nat} {S : ks_S} {σn σ σ1 : ce_S} {gn g g1 : ce_D} {z s0 s1 s2 v : Nat}
theorem kz9.w (h : kz9 a S σn gn z s0 s1 s2 σ g) : kw a S σ g σ g := kw.of h.2.2.2
theorem kz9.k (h : kz9 a S σn gn z s0 s1 s2 σ g) : ce_kd σ z = 14 := h.2.2.1.1.1
theorem kz9.l (h : kz9 a S σn gn z s0 s1 s2 σ g) : ce_ln σ z = 3 := h.2.2.1.1.2
theorem kz9.v0 (h : kz9 a S σn gn z s0 s1 s2 σ g) : ce_gl σ z 0 = lN s0 := h.2.2.1.2.1
theorem kz9.v1 (h : kz9 a S σn gn z s0 s1 s2 σ g) : ce_gl σ z 1 = lN s1 := h.2.2.1.2.2.1
theorem kz9.v2 (h : kz9 a S σn gn z s0 s1 s2 σ g) : ce_gl σ z 2 = lN s2 := h.2.2.1.2.2.2
theorem kz9.call (h : kz9 a S σn gn z s0 s1 s2 σ g) (k : kw a S σ g σ1 g1) : kz9 a S σn gn z s0 s1 s2 σ1 g1 := by
  obtain ⟨⟨a1, a2, a3, a4, a5⟩, b1, ⟨⟨c1, c2⟩, c3⟩, _⟩ := h
  obtain ⟨k1, k2, k3, k4, k5⟩ := k.s
  refine ⟨⟨Nat.le_trans a1 k1, k2.trans a2, k3.trans a3, fun x hx => (congrFun k4 x).trans (a4 x hx), fun x hx => (k5 x hx).trans (a5 x hx)⟩, b1.tr k.f, ⟨⟨by rw [k2]; exact c1, by rw [k3]; exact c2⟩, by rw [k4]; exact c3⟩, k.o⟩
theorem kz9.p0 (h : kz9 a S σn gn z s0 s1 s2 σ g) : kz9 a S σn gn z v s1 s2 (ce_upL σ z 0 (lN v)) g := by
  obtain ⟨⟨a1, a2, a3, a4, a5⟩, b1, ⟨c1, c2, c3, c4⟩, d⟩ := h
  refine ⟨⟨a1, a2, a3, fun x hx => (if_neg hx).trans (a4 x hx), a5⟩, b1, ⟨c1, ?_, ?_, ?_⟩, d⟩
  · rw [ce_upL_eq, if_pos rfl]
  · rw [ce_upL_eq, if_neg (by decide)]; exact c3
  · rw [ce_upL_eq, if_neg (by decide)]; exact c4
theorem kz9.p1 (h : kz9 a S σn gn z s0 s1 s2 σ g) : kz9 a S σn gn z s0 v s2 (ce_upL σ z 1 (lN v)) g := by
  obtain ⟨⟨a1, a2, a3, a4, a5⟩, b1, ⟨c1, c2, c3, c4⟩, d⟩ := h
  refine ⟨⟨a1, a2, a3, fun x hx => (if_neg hx).trans (a4 x hx), a5⟩, b1, ⟨c1, ?_, ?_, ?_⟩, d⟩
  · rw [ce_upL_eq, if_neg (by decide)]; exact c2
  · rw [ce_upL_eq, if_pos rfl]
  · rw [ce_upL_eq, if_neg (by decide)]; exact c4
theorem kz9.p2 (h : kz9 a S σn gn z s0 s1 s2 σ g) : kz9 a S σn gn z s0 s1 v (ce_upL σ z 2 (lN v)) g := by
  obtain ⟨⟨a1, a2, a3, a4, a5⟩, b1, ⟨c1, c2, c3, c4⟩, d⟩ := h
  refine ⟨⟨a1, a2, a3, fun x hx => (if_neg hx).trans (a4 x hx), a5⟩, b1, ⟨c1, ?_, ?_, ?_⟩, d⟩
  · rw [ce_upL_eq, if_neg (by decide)]; exact c2
  · rw [ce_upL_eq, if_neg (by decide)]; exact c3
  · rw [ce_upL_eq, if_pos rfl]
theorem kz9.start {σ0 : ce_S} {g0 : ce_D} (h : kw a S σ0 g0 σ g) (ht : a + 411 ≤ σ.1) : kz9 a S (ce_nw σ 14 3) (ce_nd σ g) σ.1 0 0 0 (ce_nw σ 14 3) (ce_nd σ g) := by
  obtain ⟨b, hX, hr⟩ := h.o
  have hb : ∀ x, x < σ.1 → x ≠ σ.1 := fun x hx => by omega
  refine ⟨⟨Nat.le_refl _, rfl, rfl, fun _ _ => rfl, fun _ _ => rfl⟩, ce_fr.rf, ⟨⟨ce_nw_kd _ _ _, ce_nw_ln _ _ _⟩, ?_, ?_, ?_⟩, b, LX_sb (t := σ.1) (g := g) (g1 := ce_nd σ g) hX (fun x hx => ⟨if_neg (hb x hx), if_neg (hb x hx), if_neg (hb x hx), if_neg (hb x hx), if_neg (hb x hx)⟩) ht, rX_far hr hX.2.2.2.1.2.2.2 (fun x h1 h2 => if_neg (hb x (by omega)))⟩
  · rw [ce_nw_gl]; rfl
  · rw [ce_nw_gl]; rfl
  · rw [ce_nw_gl]; rfl
/-- the array is forgotten -/
def kz_s (a : Nat) (σ σ1 : ce_S) : ce_S := (σ1.1, ce_kd σ, ce_ln σ, (fun x => if x = σ.1 then ce_gr σ x else ce_gr σ1 x), ce_gl σ)
def kz_g (σ : ce_S) (g g1 : ce_D) : ce_D := fun x => if x = σ.1 then g x else g1 x
theorem kz9.endf (h : kz9 a S (ce_nw σ 14 3) (ce_nd σ g) σ.1 s0 s1 s2 σ1 g1) (hf : ce_kd σ σ.1 = 0) : ∀ x, ce_kd (kz_s a σ σ1) x ≠ 0 → ce_kd (kz_s a σ σ1) x = ce_kd σ1 x ∧ ce_ln (kz_s a σ σ1) x = ce_ln σ1 x ∧ ce_gr (kz_s a σ σ1) x = ce_gr σ1 x ∧ ce_gl (kz_s a σ σ1) x = ce_gl σ1 x ∧ kz_g σ g g1 x = g1 x := fun x hx => by
  obtain ⟨⟨a1, a2, a3, a4, a5⟩, b1, c, d⟩ := h
  have hx : ce_kd σ x ≠ 0 := hx
  have hne : x ≠ σ.1 := fun e => hx (by rw [e]; exact hf)
  refine ⟨?_, ?_, if_neg hne, ?_, if_neg hne⟩
  · rw [a2]; exact (if_neg hne).symm
  · rw [a3]; exact (if_neg hne).symm
  · rw [a4 x hne]; exact (if_neg hne).symm
theorem kz9.endw (h : kz9 a S (ce_nw σ 14 3) (ce_nd σ g) σ.1 s0 s1 s2 σ1 g1) (ht : a + 411 ≤ σ.1) : kw a S σ g (kz_s a σ σ1) (kz_g σ g g1) := by
  obtain ⟨⟨a1, a2, a3, a4, a5⟩, b1, c, b, hX, hr⟩ := h
  have a1 : σ.1 + 1 ≤ σ1.1 := a1
  have hb : ∀ x, x < σ.1 → x ≠ σ.1 := fun x hx => by omega
  refine ⟨⟨⟨by show σ.1 ≤ σ1.1; omega, rfl, rfl, rfl, fun x hx => ?_⟩, fun x hx => ?_⟩, b, LX_sb (t := σ.1) (g := g1) (g1 := kz_g σ g g1) hX (fun x hx => ⟨?_, ?_, if_neg (hb x hx), ?_, if_neg (hb x hx)⟩) ht, rX_far hr hX.2.2.2.1.2.2.2 (fun x h1 h2 => if_neg (hb x (by omega)))⟩
  · show (if x = σ.1 then ce_gr σ x else ce_gr σ1 x) = ce_gr σ x
    by_cases e : x = σ.1
    · rw [if_pos e]
    · rw [if_neg e, a5 x hx]; exact if_neg e
  · show (if x = σ.1 then g x else g1 x) = g x
    by_cases e : x = σ.1
    · rw [if_pos e]
    · rw [if_neg e, b1 x hx]; exact if_neg e
  · rw [a2]; exact (if_neg (hb x hx)).symm
  · rw [a3]; exact (if_neg (hb x hx)).symm
  · rw [a4 x (hb x hx)]; exact (if_neg (hb x hx)).symm
end KZB
/-! sums of what is kept -/
theorem kv_sum_m {K : ce_V} (h : kv_cl K) {a w : Nat} (hw : w < 6) (ha : a = 7 ∨ a = 8 ∨ a = 9 ∨ a = 10) : kv_sum K a w = ce_sum (fun mz => K a (mz * 6 + w)) (K 0 0) := by
  unfold kv_sum
  refine ce_sum_end h.me (fun j h1 _ => ?_)
  have := h.zm j w hw h1
  rcases ha with rfl | rfl | rfl | rfl <;> omega
theorem kv_bw_B {K : ce_V} (h : kv_cl K) {w : Nat} (hw : w < 6) : ce_sum (kv_bw K w) (K 0 2) = kv_sum K 9 w := by
  have h1 := h.bi w hw
  rw [kv_bs_eq] at h1
  rw [← h1]
  exact (ce_sum_end h.i7 (fun j h3 _ => by unfold kv_bw; have := h.rk.z h3; split <;> omega)).symm
theorem kv_wsum {K : ce_V} (h : kv_cl K) {f : Nat → Nat} (hf : ∀ w, w < 6 → K 0 1 ≤ w → f w = 0) : ce_sum f 6 = ce_sum f (K 0 1) := ce_sum_end h.wi (fun j h1 h2 => hf j h2 h1)
theorem kv_s9 {K : ce_V} (h : kv_cl K) : ce_sum (K 9) 36 = ce_sum (kv_sum K 9) (K 0 1) := by
  rw [ce_sum_36]
  exact kv_wsum h (f := kv_sum K 9) (fun w h1 h2 => (kv_zwide h h1 h2).2.2.1)
theorem kv_s10 {K : ce_V} (h : kv_cl K) : ce_sum (K 10) 36 = ce_sum (kv_sum K 10) (K 0 1) := by
  rw [ce_sum_36]
  exact kv_wsum h (f := kv_sum K 10) (fun w h1 h2 => (kv_zwide h h1 h2).2.2.2.1)
theorem kv_s6 {K : ce_V} (h : kv_cl K) : ce_sum (K 6) 6 = ce_sum (K 6) (K 0 1) := kv_wsum h (fun w h1 h2 => (kv_zwide h h1 h2).2.2.2.2)
theorem kv_s4 {K : ce_V} (h : kv_cl K) : ce_sum (K 4) 6 = ce_sum (K 4) (K 0 1) := kv_wsum h (fun w h1 h2 => (kv_zwide h h1 h2).1)
theorem kv_m9 {K : ce_V} (h : kv_cl K) : ce_sum (K 9) 36 = ce_sum (fun mz => ce_sum (fun w => K 9 (mz * 6 + w)) 6) (K 0 0) := by
  rw [ce_sum_36m]
  exact ce_sum_end h.me (fun j h1 _ => ce_sum_z (fun w hw => (h.zm j w hw h1).2.2.2.1))
theorem kv_m10 {K : ce_V} (h : kv_cl K) : ce_sum (K 10) 36 = ce_sum (fun mz => ce_sum (fun w => K 10 (mz * 6 + w)) 6) (K 0 0) := by
  rw [ce_sum_36m]
  exact ce_sum_end h.me (fun j h1 _ => ce_sum_z (fun w hw => (h.zm j w hw h1).2.2.2.2))
theorem ki_bd {K : ce_V} {O : Nat → Int32} (h : kj K O) (hk : kv_cl K) : ∀ n : Nat, n ≤ 6 → -(35640 * (n : Int)) ≤ (ce_isum O n).toInt ∧ (ce_isum O n).toInt ≤ 71280 * (n : Int)
  | 0, _ => by
    rw [ce_isum, show (0 : Int32).toInt = 0 from by decide]
    omega
  | n + 1, hn => by
    have h1 := ki_bd h hk n (by omega)
    have h2 := h.o hk (m := n) (by omega)
    rw [ce_isum, kj_add (by omega) (by omega)]
    omega
theorem ki_step {K : ce_V} {O : Nat → Int32} (h : kj K O) (hk : kv_cl K) {n : Nat} (hn : n < 6) : (ce_isum O n).toInt64 + (O n).toInt64 = (ce_isum O (n + 1)).toInt64 := by
  have h1 := ki_bd h hk n (by omega)
  have h2 := h.o hk (m := n) hn
  apply Int64.toInt_inj.mp
  rw [Int64.toInt_add, Int32.toInt_toInt64, Int32.toInt_toInt64, Int32.toInt_toInt64, ce_isum, kj_add (by omega) (by omega)]
  exact Int.bmod_eq_of_le (by omega) (by omega)
theorem n9_ne {n : Nat} (h : n < 2147483648) : ¬ (-99999 : Int64) = lN n := fun e => by
  have h1 := congrArg Int64.toInt e
  rw [pk_lT (by omega), show (-99999 : Int64).toInt = -99999 from by decide] at h1
  omega
theorem q_bin1A {a : Nat} {S : ks_S} {σ0 σ : ce_S} {g0 g : ce_D} (hw : kw a S σ0 g0 σ g) (iv : kl_iv S) {i : Nat} (hi : i < sK S 0 2) (h0 : sK S 12 i = 0) : ce_CT (ce_rl 0 0) mL_bin [.ref a, .int (nI i), .int (nI 1)] σ g (ce_jv (-99999 : Int64) σ g) ce_no := by
  have h := q_bin1 hw iv hi
  unfold ce_wi at h
  rw [if_pos h0] at h
  exact h
theorem q_bin1B {a : Nat} {S : ks_S} {σ0 σ : ce_S} {g0 g : ce_D} (hw : kw a S σ0 g0 σ g) (iv : kl_iv S) {i : Nat} (hi : i < sK S 0 2) (h0 : 0 < sK S 12 i) : ce_CT (ce_rl 0 0) mL_bin [.ref a, .int (nI i), .int (nI 1)] σ g (ce_jv (lN (sK S 13 i - 1)) σ g) ce_no := by
  have h := q_bin1 hw iv hi
  have h1 := iv.ok.1.rk.2.2.2.1 i h0
  unfold ce_wi at h
  rw [if_neg (by omega), nI_l (by omega)] at h
  exact h
