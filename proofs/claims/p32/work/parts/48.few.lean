/-! in how few bins: the class and the reference find the same number -/
theorem kp_tb (s b : Nat) : s / 2 ^ b % 2 = 1 ↔ s.testBit b = true := by
  rw [Nat.testBit_eq_decide_div_mod_eq, decide_eq_true_iff]
theorem kp_sb {p s : Nat} (h : p &&& s = p) (i : Nat) (e : p.testBit i = true) : s.testBit i = true := by
  have := congrArg (fun z => z.testBit i) h
  simp only [Nat.testBit_and, e, Bool.true_and] at this
  exact this
theorem kp_sI {p s : Nat} (h : ∀ i, p.testBit i = true → s.testBit i = true) : p &&& s = p := by
  apply Nat.eq_of_testBit_eq
  intro i
  rw [Nat.testBit_and]
  cases e : p.testBit i with
  | false => rfl
  | true => rw [h i e]; rfl
theorem kp_andnot {s p : Nat} (h : p &&& s = p) : nI s &&& (nI p ^^^ (-1)) = nI (s ^^^ p) := by
  apply Int32.toBitVec_inj.1
  show BitVec.ofNat 32 s &&& (BitVec.ofNat 32 p ^^^ (-1 : Int32).toBitVec) = BitVec.ofNat 32 (s ^^^ p)
  have e1 : (-1 : Int32).toBitVec = BitVec.allOnes 32 := by decide
  rw [e1]
  apply BitVec.eq_of_getLsbD_eq
  intro i hi
  have h1 := kp_sb h i
  simp only [BitVec.getLsbD_and, BitVec.getLsbD_xor, BitVec.getLsbD_ofNat, BitVec.getLsbD_allOnes, hi, decide_true, Bool.true_and, Nat.testBit_xor]
  cases e2 : p.testBit i with
  | false => cases s.testBit i <;> rfl
  | true => rw [h1 e2]; rfl
theorem kp_tr {p u s : Nat} (h : p &&& u = p) (k : u &&& s = u) : p &&& s = p := kp_sI (fun i e => kp_sb k i (kp_sb h i e))
theorem kp_dif {p u s : Nat} (h : p &&& u = p) (k : u &&& s = u) : (u ^^^ p) &&& (s ^^^ p) = u ^^^ p := by
  refine kp_sI (fun i e => ?_)
  rw [Nat.testBit_xor] at e ⊢
  have h1 := kp_sb h i
  have h2 := kp_sb k i
  cases e1 : p.testBit i with
  | false =>
    rw [e1] at e
    rw [h2 (by cases e3 : u.testBit i with | false => rw [e3] at e; cases e | true => rfl)]
    rfl
  | true =>
    rw [e1, h1 e1] at e
    cases e
theorem kp_join {p v s : Nat} (h : p &&& s = p) (k : v &&& (s ^^^ p) = v) : (v ^^^ p) &&& s = v ^^^ p ∧ p &&& (v ^^^ p) = p ∧ (v ^^^ p) ^^^ p = v := by
  have h0 : ∀ i, p.testBit i = true → v.testBit i = false := fun i e => by
    cases e1 : v.testBit i with
    | false => rfl
    | true =>
      have := kp_sb k i e1
      rw [Nat.testBit_xor, kp_sb h i e, e] at this
      cases this
  refine ⟨kp_sI (fun i e => ?_), kp_sI (fun i e => ?_), ?_⟩
  · rw [Nat.testBit_xor] at e
    cases e1 : p.testBit i with
    | true => exact kp_sb h i e1
    | false =>
      rw [e1] at e
      have e2 : v.testBit i = true := by cases e3 : v.testBit i with | false => rw [e3] at e; cases e | true => rfl
      have := kp_sb k i e2
      rw [Nat.testBit_xor, e1] at this
      cases e3 : s.testBit i with
      | false => rw [e3] at this; cases this
      | true => rfl
  · rw [Nat.testBit_xor, e, h0 i e]
    rfl
  · rw [Nat.xor_assoc, Nat.xor_self, Nat.xor_zero]
theorem kp_bx {p u : Nat} (h : p &&& u = p) : kp_bits (u ^^^ p) + kp_bits p = kp_bits u := by
  have hb : ∀ b, (u ^^^ p) / 2 ^ b % 2 + p / 2 ^ b % 2 = u / 2 ^ b % 2 := fun b => by
    have e1 : (u ^^^ p) / 2 ^ b = u / 2 ^ b ^^^ p / 2 ^ b := Nat.xor_div_two_pow
    have e2 : (p / 2 ^ b &&& u / 2 ^ b) = p / 2 ^ b := by rw [← Nat.and_div_two_pow, h]
    have e3 : ((u / 2 ^ b ^^^ p / 2 ^ b) % 2 = 1) ↔ ¬ (u / 2 ^ b % 2 = 1 ↔ p / 2 ^ b % 2 = 1) := Nat.xor_mod_two_eq_one
    have e4 : p / 2 ^ b % 2 = 1 → u / 2 ^ b % 2 = 1 := fun e => (Nat.and_mod_two_eq_one.mp (e2.symm ▸ e : (p / 2 ^ b &&& u / 2 ^ b) % 2 = 1)).2
    rw [e1]
    omega
  unfold kp_bits
  have : ∀ n, ce_sum (fun b => (u ^^^ p) / 2 ^ b % 2) n + ce_sum (fun b => p / 2 ^ b % 2) n = ce_sum (fun b => u / 2 ^ b % 2) n := fun n => by
    induction n with
    | zero => rfl
    | succ n ih =>
      have := hb n
      rw [ce_sum, ce_sum, ce_sum]
      omega
  exact this 8
/-- what canPack finds -/
theorem kp_can_iff {R : Nat → Nat} {FL : Nat → Bool} {n s : Nat} (hs : s < 256) : ∀ {t q : Nat}, q &&& s = q → q < t → (kp_can R FL n s t q = true ↔ ∃ p, p ≠ 0 ∧ p ≤ q ∧ p &&& s = p ∧ n ≤ R p ∧ FL (s ^^^ p) = true)
  | 0, q, _, h => by omega
  | t + 1, q, hq, h => by
    have hle : q ≤ s := hq ▸ Nat.and_le_right
    unfold kp_can
    by_cases h0 : q = 0
    · rw [if_pos h0]
      exact ⟨fun e => (by cases e), fun ⟨p, h1, h2, _⟩ => by omega⟩
    · rw [if_neg h0]
      have hl : (q - 1) &&& s ≤ q - 1 := Nat.and_le_left
      by_cases hc : n ≤ R q ∧ FL (s ^^^ q) = true
      · rw [if_pos hc]
        exact ⟨fun _ => ⟨q, h0, Nat.le_refl _, hq, hc.1, hc.2⟩, fun _ => rfl⟩
      · rw [if_neg hc, kp_can_iff hs (kp_sub q s) (by omega)]
        constructor
        · rintro ⟨p, h1, h2, h3⟩
          exact ⟨p, h1, by omega, h3⟩
        · rintro ⟨p, h1, h2, h3, h4, h5⟩
          refine ⟨p, h1, kp_key 8 s q p (by omega) hq h3 ?_, h3, h4, h5⟩
          by_cases e : p = q
          · subst e; exact absurd ⟨h4, h5⟩ hc
          · omega
/-- the set of the bins for which P holds -/
def kp_set (P : Nat → Bool) : Nat → Nat
  | 0 => 0
  | n + 1 => kp_set P n ||| (if P n = true then 2 ^ n else 0)
theorem kp_set_tb {P : Nat → Bool} {b : Nat} : ∀ n, (kp_set P n).testBit b = (decide (b < n) && P b)
  | 0 => by rw [show kp_set P 0 = 0 from rfl, Nat.zero_testBit]; rfl
  | n + 1 => by
    unfold kp_set
    rw [Nat.testBit_or, kp_set_tb n]
    by_cases e : P n = true
    · rw [if_pos e, Nat.testBit_two_pow]
      by_cases q : n = b
      · subst q
        rw [decide_eq_true (p := n = n) rfl, Bool.or_true, decide_eq_true (p := n < n + 1) (by omega), e]; rfl
      · rw [decide_eq_false (p := n = b) q, Bool.or_false]
        by_cases q2 : b < n
        · rw [decide_eq_true q2, decide_eq_true (p := b < n + 1) (by omega)]
        · rw [decide_eq_false q2, decide_eq_false (p := b < n + 1) (by omega)]
    · rw [if_neg e, Nat.zero_testBit, Bool.or_false]
      by_cases q : n = b
      · subst q
        rw [Bool.eq_false_iff.mpr e, Bool.and_false, Bool.and_false]
      · by_cases q2 : b < n
        · rw [decide_eq_true q2, decide_eq_true (p := b < n + 1) (by omega)]
        · rw [decide_eq_false q2, decide_eq_false (p := b < n + 1) (by omega)]
theorem kp_set_lt {P : Nat → Bool} : ∀ n, kp_set P n < 2 ^ n
  | 0 => Nat.one_pos
  | n + 1 => by
    unfold kp_set
    have h1 := kp_set_lt (P := P) n
    have h2 : 2 ^ n < 2 ^ (n + 1) := Nat.pow_lt_pow_right (by decide) (by omega)
    refine Nat.or_lt_two_pow (Nat.lt_trans h1 h2) ?_
    split
    · exact h2
    · exact Nat.two_pow_pos _
/-- the bins as they are filled -/
def kp_U (K : ce_V) (w : Nat) : Nat := kp_set (fun b => decide (0 < K 12 b ∧ K 13 b ≤ w)) (K 0 2)
def kp_P (K : ce_V) (w : Nat) : Nat := kp_set (fun b => decide (0 < K 12 b ∧ K 13 b = w + 1)) (K 0 2)
theorem kp_U_fl {K : ce_V} (h : kv_cl K) : ∀ w, w ≤ 6 → kp_fl K w (kp_U K w) = true
  | 0, _ => by
    show decide (kp_U K 0 = 0) = true
    refine decide_eq_true (Nat.eq_of_testBit_eq fun i => ?_)
    unfold kp_U
    rw [kp_set_tb, Nat.zero_testBit]
    by_cases q : 0 < K 12 i ∧ K 13 i ≤ 0
    · have := h.rk.2.2.2.1 i q.1
      omega
    · rw [decide_eq_false q, Bool.and_false]
  | w + 1, hw => by
    have ih := kp_U_fl h w (by omega)
    have hB := h.i7
    have hbs := h.bi w (by omega)
    have hu8 : kp_U K (w + 1) < 256 := Nat.lt_of_lt_of_le (kp_set_lt _) (Nat.pow_le_pow_right (by decide) hB)
    have hsum : ∀ n, n ≤ 8 → K 0 2 ≤ n → ce_sum (kv_bw K w) n = ce_sum (kv_bw K w) (K 0 2) := fun n _ h2 => ce_sum_end h2 (fun j h3 _ => by unfold kv_bw; have := h.rk.z h3; split <;> omega)
    have hs8 := hsum 8 (Nat.le_refl _) hB
    rw [kv_bs_eq] at hbs
    unfold kp_fl
    by_cases e : kv_sum K 9 w = 0
    · rw [if_pos e]
      have eU : kp_U K (w + 1) = kp_U K w := by
        refine Nat.eq_of_testBit_eq fun i => ?_
        unfold kp_U
        rw [kp_set_tb, kp_set_tb]
        by_cases q : i < K 0 2
        · have hz := ce_sum_zero (f := kv_bw K w) (n := 8) (by omega) (show i < 8 by omega)
          unfold kv_bw at hz
          congr 1
          refine decide_eq_decide.mpr ⟨fun g => ⟨g.1, ?_⟩, fun g => ⟨g.1, by omega⟩⟩
          by_cases e13 : K 13 i = w + 1
          · rw [if_pos e13] at hz; omega
          · omega
        · rw [decide_eq_false q]; rfl
      rw [eU]
      exact ih
    · rw [if_neg e]
      have hP : kp_P K w &&& kp_U K (w + 1) = kp_P K w := kp_sI (fun i g => by
        unfold kp_P at g
        unfold kp_U
        rw [kp_set_tb] at g ⊢
        simp only [Bool.and_eq_true, decide_eq_true_eq] at g ⊢
        exact ⟨g.1, g.2.1, by omega⟩)
      have hX : kp_U K (w + 1) ^^^ kp_P K w = kp_U K w := by
        refine Nat.eq_of_testBit_eq fun i => ?_
        unfold kp_U kp_P
        rw [Nat.testBit_xor, kp_set_tb, kp_set_tb, kp_set_tb]
        by_cases q : i < K 0 2
        · rw [decide_eq_true q, Bool.true_and, Bool.true_and, Bool.true_and]
          by_cases g : 0 < K 12 i
          · by_cases g1 : K 13 i = w + 1
            · rw [decide_eq_true (p := 0 < K 12 i ∧ K 13 i ≤ w + 1) ⟨g, by omega⟩, decide_eq_true (p := 0 < K 12 i ∧ K 13 i = w + 1) ⟨g, g1⟩, decide_eq_false (p := 0 < K 12 i ∧ K 13 i ≤ w) (by omega)]; rfl
            · by_cases g2 : K 13 i ≤ w
              · rw [decide_eq_true (p := 0 < K 12 i ∧ K 13 i ≤ w + 1) ⟨g, by omega⟩, decide_eq_false (p := 0 < K 12 i ∧ K 13 i = w + 1) (by omega), decide_eq_true (p := 0 < K 12 i ∧ K 13 i ≤ w) ⟨g, g2⟩]; rfl
              · rw [decide_eq_false (p := 0 < K 12 i ∧ K 13 i ≤ w + 1) (by omega), decide_eq_false (p := 0 < K 12 i ∧ K 13 i = w + 1) (by omega), decide_eq_false (p := 0 < K 12 i ∧ K 13 i ≤ w) (by omega)]; rfl
          · rw [decide_eq_false (p := 0 < K 12 i ∧ K 13 i ≤ w + 1) (by omega), decide_eq_false (p := 0 < K 12 i ∧ K 13 i = w + 1) (by omega), decide_eq_false (p := 0 < K 12 i ∧ K 13 i ≤ w) (by omega)]; rfl
        · rw [decide_eq_false q]; rfl
      have hR : ∀ n, n ≤ K 0 2 → ce_sum (kv_bw K w) n ≤ kp_room K (kp_P K w) n := fun n hn => by
        induction n with
        | zero => exact Nat.le_refl _
        | succ n ihn =>
          have i1 := ihn (by omega)
          unfold kp_room at i1 ⊢
          rw [ce_sum, ce_sum]
          have h12 := h.rk.2.1 n
          have : kv_bw K w n ≤ if kp_P K w / 2 ^ n % 2 = 1 then K 11 n else 0 := by
            unfold kv_bw
            by_cases g : K 13 n = w + 1
            · rw [if_pos g]
              by_cases g2 : 0 < K 12 n
              · rw [if_pos ((kp_tb _ _).mpr ?_)]
                · exact h12.1
                · unfold kp_P
                  rw [kp_set_tb, decide_eq_true (p := n < K 0 2) (by omega), decide_eq_true (p := 0 < K 12 n ∧ K 13 n = w + 1) ⟨g2, g⟩]; rfl
              · omega
            · rw [if_neg g]; exact Nat.zero_le _
          omega
      have h1 := hR (K 0 2) (Nat.le_refl _)
      refine (kp_can_iff hu8 (Nat.and_self _) hu8).mpr ⟨kp_P K w, ?_, hP ▸ Nat.and_le_right, hP, by show _ ≤ kp_room K _ _; omega, by rw [hX]; exact ih⟩
      intro e0
      have hz : ∀ n, kp_room K 0 n = 0 := fun n => by
        unfold kp_room
        exact ce_sum_z (fun j _ => by rw [Nat.zero_div]; rfl)
      rw [e0, hz] at h1
      omega
theorem kp_min_sp {FL : Nat → Bool} {v : Nat} : ∀ n, (∀ u, u < n → FL u = true → kp_min FL v n ≤ kp_bits u) ∧ (kp_min FL v n = v ∨ ∃ u, u < n ∧ FL u = true ∧ kp_min FL v n = kp_bits u)
  | 0 => ⟨fun u hu => absurd hu (Nat.not_lt_zero u), Or.inl rfl⟩
  | n + 1 => by
    obtain ⟨a1, a2⟩ := kp_min_sp (FL := FL) (v := v) n
    unfold kp_min
    by_cases e : FL n = true
    · rw [if_pos e]
      refine ⟨fun u hu hF => ?_, ?_⟩
      · by_cases q : u = n
        · subst q; omega
        · have := a1 u (by omega) hF
          omega
      · by_cases q : kp_min FL v n ≤ kp_bits n
        · rw [Nat.min_eq_left q]
          rcases a2 with a2 | ⟨u, u1, u2, u3⟩
          · exact Or.inl a2
          · exact Or.inr ⟨u, by omega, u2, u3⟩
        · rw [Nat.min_eq_right (by omega)]
          exact Or.inr ⟨n, by omega, e, rfl⟩
    · rw [if_neg e]
      refine ⟨fun u hu hF => ?_, ?_⟩
      · by_cases q : u = n
        · subst q; exact absurd hF e
        · exact a1 u (by omega) hF
      · rcases a2 with a2 | ⟨u, u1, u2, u3⟩
        · exact Or.inl a2
        · exact Or.inr ⟨u, by omega, u2, u3⟩
theorem kp_bits_B {u B : Nat} (hu : u < 2 ^ B) (hB : B ≤ 8) : kp_bits u ≤ B := by
  have h : ∀ n, ce_sum (fun b => u / 2 ^ b % 2) n ≤ n := fun n => by
    induction n with
    | zero => exact Nat.le_refl _
    | succ n ih =>
      rw [ce_sum]
      have : u / 2 ^ n % 2 < 2 := Nat.mod_lt _ (by decide)
      omega
  unfold kp_bits
  rw [ce_sum_end hB (fun j h1 _ => by rw [Nat.div_eq_of_lt (Nat.lt_of_lt_of_le hu (Nat.pow_le_pow_right (by decide) h1))])]
  exact h B
/-- in no more bins than are used now -/
def kp_used (K : ce_V) : Nat := ce_sum (fun b => if 0 < K 12 b then 1 else 0) (K 0 2)
theorem ce_sum_le2 {f f1 : Nat → Nat} : ∀ {n : Nat}, (∀ j, j < n → f j ≤ f1 j) → ce_sum f n ≤ ce_sum f1 n
  | 0, _ => Nat.le_refl _
  | n + 1, h => by
    have h1 := ce_sum_le2 (f := f) (f1 := f1) (n := n) (fun j hj => h j (by omega))
    have h2 := h n (by omega)
    rw [ce_sum, ce_sum]
    omega
theorem kp_few_le {K : ce_V} (h : kv_cl K) : kp_few K ≤ kp_used K := by
  have hB := h.i7
  have hU := kp_U_fl h (K 0 1) h.wi
  have hUlt : kp_U K (K 0 1) < 2 ^ K 0 2 := kp_set_lt _
  obtain ⟨n1, n2⟩ := kp_min_sp (FL := kp_fl K (K 0 1)) (v := K 0 2) (2 ^ K 0 2)
  refine Nat.le_trans (n1 _ hUlt hU) ?_
  unfold kp_bits kp_used
  rw [ce_sum_end hB (fun j h1 _ => by rw [Nat.div_eq_of_lt (Nat.lt_of_lt_of_le hUlt (Nat.pow_le_pow_right (by decide) h1))])]
  refine ce_sum_le2 (fun j hj => ?_)
  have h2 : kp_U K (K 0 1) / 2 ^ j % 2 < 2 := Nat.mod_lt _ (by decide)
  by_cases e : kp_U K (K 0 1) / 2 ^ j % 2 = 1
  · have e2 := (kp_tb _ _).mp e
    unfold kp_U at e2
    rw [kp_set_tb] at e2
    simp only [Bool.and_eq_true, decide_eq_true_eq] at e2
    rw [if_pos e2.2.1]
    omega
  · omega
theorem ce_sum_36 (f : Nat → Nat) : ce_sum f 36 = ce_sum (fun w => ce_sum (fun m => f (m * 6 + w)) 6) 6 := by
  simp only [ce_sum]
  simp only [Nat.zero_mul, Nat.zero_add, Nat.one_mul, Nat.reduceMul, Nat.reduceAdd]
  omega
theorem ce_sum_36m (f : Nat → Nat) : ce_sum f 36 = ce_sum (fun m => ce_sum (fun w => f (m * 6 + w)) 6) 6 := by
  simp only [ce_sum]
  simp only [Nat.zero_mul, Nat.zero_add, Nat.one_mul, Nat.reduceMul, Nat.reduceAdd]
  omega
theorem kv_zwide {K : ce_V} (h : kv_cl K) {w : Nat} (hw : w < 6) (h1 : K 0 1 ≤ w) : K 4 w = 0 ∧ kv_sum K 8 w = 0 ∧ kv_sum K 9 w = 0 ∧ kv_sum K 10 w = 0 ∧ K 6 w = 0 := by
  have h2 := h.bo w hw
  have h3 := h.zw w hw h1
  omega
theorem kp_fl_0 {K : ce_V} : ∀ n, (kp_fl K n 0 = true ↔ ∀ w, w < n → kv_sum K 9 w = 0)
  | 0 => ⟨fun _ w hw => absurd hw (Nat.not_lt_zero w), fun _ => by show decide ((0 : Nat) = 0) = true; exact decide_eq_true rfl⟩
  | n + 1 => by
    have ih := kp_fl_0 (K := K) n
    unfold kp_fl
    by_cases e : kv_sum K 9 n = 0
    · rw [if_pos e, ih]
      exact ⟨fun h w hw => by
        by_cases q : w = n
        · subst q; exact e
        · exact h w (by omega), fun h w hw => h w (by omega)⟩
    · rw [if_neg e]
      unfold kp_wine
      rw [kp_can_0]
      exact ⟨fun h => (by cases h), fun h => absurd (h n (by omega)) e⟩
theorem kp_bits_z {u : Nat} (h8 : u < 256) (h : kp_bits u = 0) : u = 0 := by
  refine Nat.eq_of_testBit_eq fun i => ?_
  rw [Nat.zero_testBit]
  by_cases q : i < 8
  · have hz := ce_sum_zero (f := fun b => u / 2 ^ b % 2) (n := 8) h q
    cases e : u.testBit i with
    | false => rfl
    | true => rw [(kp_tb u i).mpr e] at hz; omega
  · exact Nat.testBit_lt_two_pow (Nat.lt_of_lt_of_le h8 (Nat.pow_le_pow_right (n := 2) (i := 8) (by decide) (by omega)))
theorem kp_few_0 {K : ce_V} (h : kv_cl K) : ce_sum (K 9) 36 = 0 ↔ kp_few K = 0 := by
  have hB := h.i7
  have hpos : 0 < 2 ^ K 0 2 := Nat.two_pow_pos _
  have h256 : 2 ^ K 0 2 ≤ 2 ^ 8 := Nat.pow_le_pow_right (by decide) hB
  obtain ⟨n1, n2⟩ := kp_min_sp (FL := kp_fl K (K 0 1)) (v := K 0 2) (2 ^ K 0 2)
  have key : (∀ w, w < 6 → kv_sum K 9 w = 0) → ce_sum (K 9) 36 = 0 := fun hz => by
    rw [ce_sum_36]
    exact ce_sum_z (fun w hw => hz w hw)
  constructor
  · intro hz
    rw [ce_sum_36] at hz
    have := n1 0 hpos ((kp_fl_0 _).mpr (fun w hw => ce_sum_zero (f := fun w => ce_sum (fun m => K 9 (m * 6 + w)) 6) (n := 6) hz (by have := h.wi; omega)))
    have hb : kp_bits 0 = 0 := by decide
    unfold kp_few
    omega
  · intro hf
    refine key (fun w hw => ?_)
    unfold kp_few at hf
    rcases n2 with n2 | ⟨u, u1, u2, u3⟩
    · have h0 : K 0 2 = 0 := by omega
      rw [← h.bi w hw]
      exact ce_sum_z (fun b _ => by have := h.rk.z (b := b) (by omega); simp only [this]; split <;> rfl)
    · have hu : u = 0 := kp_bits_z (by omega) (by omega)
      subst hu
      by_cases q : w < K 0 1
      · exact (kp_fl_0 _).mp u2 w q
      · exact (kv_zwide h hw (by omega)).2.2.1
