/-! in how few bins: the class and the reference find the same number -/
theorem kp_tb (s b : Nat) : s / 2 ^ b % 2 = 1 ↔ s.testBit b = true := by
  rw [Nat.testBit_eq_decide_div_mod_eq, decide_eq_true_iff]
theorem kp_sb {p s : Nat} (h : p &&& s = p) (i : Nat) (e : p.testBit i = true) : s.testBit i = true := by
  have := congrArg (fun z => z.testBit i) h
  simp only [Nat.testBit_and, e, Bool.true_and] at this
  exact this
theorem kp_sI {p s : Nat} (h : ∀ i, p.testBit i = true → s.testBit i = true) : p &&& s = p := by
  apply Nat.eq_of_testBit_eq
  intro i
  rw [Nat.testBit_and]
  cases e : p.testBit i with
  | false => rfl
  | true => rw [h i e]; rfl
theorem kp_andnot {s p : Nat} (h : p &&& s = p) : nI s &&& (nI p ^^^ (-1)) = nI (s ^^^ p) := by
  apply Int32.toBitVec_inj.1
  show BitVec.ofNat 32 s &&& (BitVec.ofNat 32 p ^^^ (-1 : Int32).toBitVec) = BitVec.ofNat 32 (s ^^^ p)
  have e1 : (-1 : Int32).toBitVec = BitVec.allOnes 32 := by decide
  rw [e1]
  apply BitVec.eq_of_getLsbD_eq
  intro i hi
  have h1 := kp_sb h i
  simp only [BitVec.getLsbD_and, BitVec.getLsbD_xor, BitVec.getLsbD_ofNat, BitVec.getLsbD_allOnes, hi, decide_true, Bool.true_and, Nat.testBit_xor]
  cases e2 : p.testBit i with
  | false => cases s.testBit i <;> rfl
  | true => rw [h1 e2]; rfl
theorem kp_tr {p u s : Nat} (h : p &&& u = p) (k : u &&& s = u) : p &&& s = p := kp_sI (fun i e => kp_sb k i (kp_sb h i e))
theorem kp_dif {p u s : Nat} (h : p &&& u = p) (k : u &&& s = u) : (u ^^^ p) &&& (s ^^^ p) = u ^^^ p := by
  refine kp_sI (fun i e => ?_)
  rw [Nat.testBit_xor] at e ⊢
  have h1 := kp_sb h i
  have h2 := kp_sb k i
  cases e1 : p.testBit i with
  | false =>
    rw [e1] at e
    rw [h2 (by cases e3 : u.testBit i with | false => rw [e3] at e; cases e | true => rfl)]
    rfl
  | true =>
    rw [e1, h1 e1] at e
    cases e
theorem kp_join {p v s : Nat} (h : p &&& s = p) (k : v &&& (s ^^^ p) = v) : (v ^^^ p) &&& s = v ^^^ p ∧ p &&& (v ^^^ p) = p ∧ (v ^^^ p) ^^^ p = v := by
  have h0 : ∀ i, p.testBit i = true → v.testBit i = false := fun i e => by
    cases e1 : v.testBit i with
    | false => rfl
    | true =>
      have := kp_sb k i e1
      rw [Nat.testBit_xor, kp_sb h i e, e] at this
      cases this
  refine ⟨kp_sI (fun i e => ?_), kp_sI (fun i e => ?_), ?_⟩
  · rw [Nat.testBit_xor] at e
    cases e1 : p.testBit i with
    | true => exact kp_sb h i e1
    | false =>
      rw [e1] at e
      have e2 : v.testBit i = true := by cases e3 : v.testBit i with | false => rw [e3] at e; cases e | true => rfl
      have := kp_sb k i e2
      rw [Nat.testBit_xor, e1] at this
      cases e3 : s.testBit i with
      | false => rw [e3] at this; cases this
      | true => rfl
  · rw [Nat.testBit_xor, e, h0 i e]
    rfl
  · rw [Nat.xor_assoc, Nat.xor_self, Nat.xor_zero]
theorem kp_bx {p u : Nat} (h : p &&& u = p) : kp_bits (u ^^^ p) + kp_bits p = kp_bits u := by
  have hb : ∀ b, (u ^^^ p) / 2 ^ b % 2 + p / 2 ^ b % 2 = u / 2 ^ b % 2 := fun b => by
    have e1 : (u ^^^ p) / 2 ^ b = u / 2 ^ b ^^^ p / 2 ^ b := Nat.xor_div_two_pow
    have e2 : (p / 2 ^ b &&& u / 2 ^ b) = p / 2 ^ b := by rw [← Nat.and_div_two_pow, h]
    have e3 : ((u / 2 ^ b ^^^ p / 2 ^ b) % 2 = 1) ↔ ¬ (u / 2 ^ b % 2 = 1 ↔ p / 2 ^ b % 2 = 1) := Nat.xor_mod_two_eq_one
    have e4 : p / 2 ^ b % 2 = 1 → u / 2 ^ b % 2 = 1 := fun e => (Nat.and_mod_two_eq_one.mp (e2.symm ▸ e : (p / 2 ^ b &&& u / 2 ^ b) % 2 = 1)).2
    rw [e1]
    omega
  unfold kp_bits
  have : ∀ n, ce_sum (fun b => (u ^^^ p) / 2 ^ b % 2) n + ce_sum (fun b => p / 2 ^ b % 2) n = ce_sum (fun b => u / 2 ^ b % 2) n := fun n => by
    induction n with
    | zero => rfl
    | succ n ih =>
      have := hb n
      rw [ce_sum, ce_sum, ce_sum]
      omega
  exact this 8
/-- what canPack finds -/
theorem kp_can_iff {R : Nat → Nat} {FL : Nat → Bool} {n s : Nat} (hs : s < 256) : ∀ {t q : Nat}, q &&& s = q → q < t → (kp_can R FL n s t q = true ↔ ∃ p, p ≠ 0 ∧ p ≤ q ∧ p &&& s = p ∧ n ≤ R p ∧ FL (s ^^^ p) = true)
  | 0, q, _, h => by omega
  | t + 1, q, hq, h => by
    have hle : q ≤ s := hq ▸ Nat.and_le_right
    unfold kp_can
    by_cases h0 : q = 0
    · rw [if_pos h0]
      exact ⟨fun e => (by cases e), fun ⟨p, h1, h2, _⟩ => by omega⟩
    · rw [if_neg h0]
      have hl : (q - 1) &&& s ≤ q - 1 := Nat.and_le_left
      by_cases hc : n ≤ R q ∧ FL (s ^^^ q) = true
      · rw [if_pos hc]
        exact ⟨fun _ => ⟨q, h0, Nat.le_refl _, hq, hc.1, hc.2⟩, fun _ => rfl⟩
      · rw [if_neg hc, kp_can_iff hs (kp_sub q s) (by omega)]
        constructor
        · rintro ⟨p, h1, h2, h3⟩
          exact ⟨p, h1, by omega, h3⟩
        · rintro ⟨p, h1, h2, h3, h4, h5⟩
          refine ⟨p, h1, kp_key 8 s q p (by omega) hq h3 ?_, h3, h4, h5⟩
          by_cases e : p = q
          · subst e; exact absurd ⟨h4, h5⟩ hc
          · omega
def kb_lw (R f : Nat → Nat) (n s : Nat) : Nat → Nat → Nat → Nat
  | 0, _, v => v
  | t + 1, p, v => if p = 0 then v else kb_lw R f n s t ((p - 1) &&& s) (if n ≤ R p ∧ f (s ^^^ p) + kp_bits p < v then f (s ^^^ p) + kp_bits p else v)
theorem kb_lw_0 {R f : Nat → Nat} {n s t v : Nat} : kb_lw R f n s t 0 v = v := by
  cases t with
  | zero => rfl
  | succ t => exact if_pos rfl
theorem kb_lw_1 {R f : Nat → Nat} {n s t p v : Nat} (ht : 0 < t) (hp : p ≠ 0) : kb_lw R f n s t p v = kb_lw R f n s (t - 1) ((p - 1) &&& s) (if n ≤ R p ∧ f (s ^^^ p) + kp_bits p < v then f (s ^^^ p) + kp_bits p else v) := by
  obtain ⟨u, rfl⟩ : ∃ u, t = u + 1 := ⟨t - 1, by omega⟩
  exact if_neg hp
def kb_next (R f : Nat → Nat) (n : Nat) : Nat → Nat := fun s => kb_lw R f n s 256 s 99
def kb_fw (K : ce_V) : Nat → Nat → Nat
  | 0 => fun _ => 0
  | w + 1 => if kv_sum K 9 w = 0 then kb_fw K w else kb_next (fun s => kp_room K s (K 0 2)) (kb_fw K w) (kv_sum K 9 w)
theorem kb_lw_sp {R f : Nat → Nat} {n s : Nat} (hs : s < 256) : ∀ {t q v : Nat}, q &&& s = q → q < t → kb_lw R f n s t q v ≤ v ∧ (∀ p, p ≠ 0 → p ≤ q → p &&& s = p → n ≤ R p → kb_lw R f n s t q v ≤ f (s ^^^ p) + kp_bits p) ∧ (kb_lw R f n s t q v = v ∨ ∃ p, p ≠ 0 ∧ p &&& s = p ∧ n ≤ R p ∧ kb_lw R f n s t q v = f (s ^^^ p) + kp_bits p)
  | 0, q, v, _, h => by omega
  | t + 1, q, v, hq, h => by
    have hle : q ≤ s := hq ▸ Nat.and_le_right
    have hl : (q - 1) &&& s ≤ q - 1 := Nat.and_le_left
    unfold kb_lw
    by_cases h0 : q = 0
    · rw [if_pos h0]
      exact ⟨Nat.le_refl _, fun p h1 h2 => by omega, Or.inl rfl⟩
    · rw [if_neg h0]
      obtain ⟨a1, a2, a3⟩ := kb_lw_sp (R := R) (f := f) (n := n) (s := s) hs (t := t) (q := (q - 1) &&& s) (v := if n ≤ R q ∧ f (s ^^^ q) + kp_bits q < v then f (s ^^^ q) + kp_bits q else v) (kp_sub q s) (by omega)
      have hv : (if n ≤ R q ∧ f (s ^^^ q) + kp_bits q < v then f (s ^^^ q) + kp_bits q else v) ≤ v := by split <;> omega
      refine ⟨Nat.le_trans a1 hv, fun p h1 h2 h3 h4 => ?_, ?_⟩
      · by_cases e : p = q
        · subst e
          refine Nat.le_trans a1 ?_
          split <;> omega
        · exact a2 p h1 (kp_key 8 s q p (by omega) hq h3 (by omega)) h3 h4
      · rcases a3 with a3 | a3
        · by_cases hc : n ≤ R q ∧ f (s ^^^ q) + kp_bits q < v
          · rw [if_pos hc] at a3 ⊢
            exact Or.inr ⟨q, h0, hq, hc.1, a3⟩
          · rw [if_neg hc] at a3 ⊢
            exact Or.inl a3
        · exact Or.inr a3
/-- the reference's number of bins for a set, by what the class knows -/
def kb_M (f : Nat → Nat) (FL : Nat → Bool) : Prop := ∀ s, s < 256 → f s ≤ 99 ∧ (∀ u, u &&& s = u → FL u = true → f s ≤ kp_bits u) ∧ (f s = 99 ∨ ∃ u, u &&& s = u ∧ FL u = true ∧ kp_bits u = f s)
theorem kp_xlt {s p : Nat} (hs : s < 256) (h : p &&& s = p) : s ^^^ p < 256 ∧ s ^^^ p ≤ s := by
  have := kp_xs 8 s p hs h
  omega
theorem kb_M_step {R f : Nat → Nat} {FL : Nat → Bool} {n : Nat} (h : kb_M f FL) : kb_M (kb_next R f n) (kp_wine R FL n) := by
  intro s hs
  obtain ⟨a1, a2, a3⟩ := kb_lw_sp (R := R) (f := f) (n := n) (s := s) hs (t := 256) (q := s) (v := 99) (Nat.and_self s) hs
  refine ⟨a1, fun u hu hF => ?_, ?_⟩
  · have hus : u ≤ s := hu ▸ Nat.and_le_right
    obtain ⟨p, h1, h2, h3, h4, h5⟩ := (kp_can_iff (by omega) (Nat.and_self u) (by omega)).mp hF
    have hps := kp_tr h3 hu
    have hm := (h (s ^^^ p) (kp_xlt hs hps).1).2.1 (u ^^^ p) (kp_dif h3 hu) h5
    have := a2 p h1 (by omega) hps h4
    have hb := kp_bx h3
    show kb_lw R f n s 256 s 99 ≤ _
    omega
  · show kb_lw R f n s 256 s 99 = 99 ∨ _
    rcases a3 with a3 | ⟨p, h1, h2, h3, h4⟩
    · exact Or.inl a3
    · rcases (h (s ^^^ p) (kp_xlt hs h2).1).2.2 with hm | ⟨v, v1, v2, v3⟩
      · exact Or.inl (by omega)
      · obtain ⟨j1, j2, j3⟩ := kp_join h2 v1
        have hle : v ^^^ p ≤ s := j1 ▸ Nat.and_le_right
        have hb := kp_bx j2
        rw [j3] at hb
        refine Or.inr ⟨v ^^^ p, j1, (kp_can_iff (by omega) (Nat.and_self _) (by omega)).mpr ⟨p, h1, (by have := Nat.and_le_right (n := p) (m := v ^^^ p); rw [j2] at this; exact this), j2, h3, by rw [j3]; exact v2⟩, ?_⟩
        show kp_bits (v ^^^ p) = kb_lw R f n s 256 s 99
        omega
theorem kb_M_all {K : ce_V} : ∀ w, kb_M (kb_fw K w) (kp_fl K w)
  | 0 => fun s _ => ⟨Nat.zero_le _, fun u _ _ => Nat.zero_le _, Or.inr ⟨0, Nat.zero_and s, rfl, (show kp_bits 0 = 0 by decide)⟩⟩
  | w + 1 => by
    unfold kb_fw kp_fl
    by_cases e : kv_sum K 9 w = 0
    · rw [if_pos e, if_pos e]; exact kb_M_all w
    · rw [if_neg e, if_neg e]; exact kb_M_step (kb_M_all w)
/-- the set of the bins for which P holds -/
def kp_set (P : Nat → Bool) : Nat → Nat
  | 0 => 0
  | n + 1 => kp_set P n ||| (if P n = true then 2 ^ n else 0)
theorem kp_set_tb {P : Nat → Bool} {b : Nat} : ∀ n, (kp_set P n).testBit b = (decide (b < n) && P b)
  | 0 => by rw [show kp_set P 0 = 0 from rfl, Nat.zero_testBit]; rfl
  | n + 1 => by
    unfold kp_set
    rw [Nat.testBit_or, kp_set_tb n]
    by_cases e : P n = true
    · rw [if_pos e, Nat.testBit_two_pow]
      by_cases q : n = b
      · subst q
        rw [decide_eq_true (p := n = n) rfl, Bool.or_true, decide_eq_true (p := n < n + 1) (by omega), e]; rfl
      · rw [decide_eq_false (p := n = b) q, Bool.or_false]
        by_cases q2 : b < n
        · rw [decide_eq_true q2, decide_eq_true (p := b < n + 1) (by omega)]
        · rw [decide_eq_false q2, decide_eq_false (p := b < n + 1) (by omega)]
    · rw [if_neg e, Nat.zero_testBit, Bool.or_false]
      by_cases q : n = b
      · subst q
        rw [Bool.eq_false_iff.mpr e, Bool.and_false, Bool.and_false]
      · by_cases q2 : b < n
        · rw [decide_eq_true q2, decide_eq_true (p := b < n + 1) (by omega)]
        · rw [decide_eq_false q2, decide_eq_false (p := b < n + 1) (by omega)]
theorem kp_set_lt {P : Nat → Bool} : ∀ n, kp_set P n < 2 ^ n
  | 0 => Nat.one_pos
  | n + 1 => by
    unfold kp_set
    have h1 := kp_set_lt (P := P) n
    have h2 : 2 ^ n < 2 ^ (n + 1) := Nat.pow_lt_pow_right (by decide) (by omega)
    refine Nat.or_lt_two_pow (Nat.lt_trans h1 h2) ?_
    split
    · exact h2
    · exact Nat.two_pow_pos _
/-- the bins as they are filled -/
def kp_U (K : ce_V) (w : Nat) : Nat := kp_set (fun b => decide (0 < K 12 b ∧ K 13 b ≤ w)) (K 0 2)
def kp_P (K : ce_V) (w : Nat) : Nat := kp_set (fun b => decide (0 < K 12 b ∧ K 13 b = w + 1)) (K 0 2)
theorem kp_U_fl {K : ce_V} (h : kv_cl K) : ∀ w, w ≤ 6 → kp_fl K w (kp_U K w) = true
  | 0, _ => by
    show decide (kp_U K 0 = 0) = true
    refine decide_eq_true (Nat.eq_of_testBit_eq fun i => ?_)
    unfold kp_U
    rw [kp_set_tb, Nat.zero_testBit]
    by_cases q : 0 < K 12 i ∧ K 13 i ≤ 0
    · have := h.rk.2.2.2.1 i q.1
      omega
    · rw [decide_eq_false q, Bool.and_false]
  | w + 1, hw => by
    have ih := kp_U_fl h w (by omega)
    have hB := h.i7
    have hbs := h.bi w (by omega)
    have hu8 : kp_U K (w + 1) < 256 := Nat.lt_of_lt_of_le (kp_set_lt _) (Nat.pow_le_pow_right (by decide) hB)
    have hsum : ∀ n, n ≤ 8 → K 0 2 ≤ n → ce_sum (kv_bw K w) n = ce_sum (kv_bw K w) (K 0 2) := fun n _ h2 => ce_sum_end h2 (fun j h3 _ => by unfold kv_bw; have := h.rk.z h3; split <;> omega)
    have hs8 := hsum 8 (Nat.le_refl _) hB
    rw [kv_bs_eq] at hbs
    unfold kp_fl
    by_cases e : kv_sum K 9 w = 0
    · rw [if_pos e]
      have eU : kp_U K (w + 1) = kp_U K w := by
        refine Nat.eq_of_testBit_eq fun i => ?_
        unfold kp_U
        rw [kp_set_tb, kp_set_tb]
        by_cases q : i < K 0 2
        · have hz := ce_sum_zero (f := kv_bw K w) (n := 8) (by omega) (show i < 8 by omega)
          unfold kv_bw at hz
          congr 1
          refine decide_eq_decide.mpr ⟨fun g => ⟨g.1, ?_⟩, fun g => ⟨g.1, by omega⟩⟩
          by_cases e13 : K 13 i = w + 1
          · rw [if_pos e13] at hz; omega
          · omega
        · rw [decide_eq_false q]; rfl
      rw [eU]
      exact ih
    · rw [if_neg e]
      have hP : kp_P K w &&& kp_U K (w + 1) = kp_P K w := kp_sI (fun i g => by
        unfold kp_P at g
        unfold kp_U
        rw [kp_set_tb] at g ⊢
        simp only [Bool.and_eq_true, decide_eq_true_eq] at g ⊢
        exact ⟨g.1, g.2.1, by omega⟩)
      have hX : kp_U K (w + 1) ^^^ kp_P K w = kp_U K w := by
        refine Nat.eq_of_testBit_eq fun i => ?_
        unfold kp_U kp_P
        rw [Nat.testBit_xor, kp_set_tb, kp_set_tb, kp_set_tb]
        by_cases q : i < K 0 2
        · rw [decide_eq_true q, Bool.true_and, Bool.true_and, Bool.true_and]
          by_cases g : 0 < K 12 i
          · by_cases g1 : K 13 i = w + 1
            · rw [decide_eq_true (p := 0 < K 12 i ∧ K 13 i ≤ w + 1) ⟨g, by omega⟩, decide_eq_true (p := 0 < K 12 i ∧ K 13 i = w + 1) ⟨g, g1⟩, decide_eq_false (p := 0 < K 12 i ∧ K 13 i ≤ w) (by omega)]; rfl
            · by_cases g2 : K 13 i ≤ w
              · rw [decide_eq_true (p := 0 < K 12 i ∧ K 13 i ≤ w + 1) ⟨g, by omega⟩, decide_eq_false (p := 0 < K 12 i ∧ K 13 i = w + 1) (by omega), decide_eq_true (p := 0 < K 12 i ∧ K 13 i ≤ w) ⟨g, g2⟩]; rfl
              · rw [decide_eq_false (p := 0 < K 12 i ∧ K 13 i ≤ w + 1) (by omega), decide_eq_false (p := 0 < K 12 i ∧ K 13 i = w + 1) (by omega), decide_eq_false (p := 0 < K 12 i ∧ K 13 i ≤ w) (by omega)]; rfl
          · rw [decide_eq_false (p := 0 < K 12 i ∧ K 13 i ≤ w + 1) (by omega), decide_eq_false (p := 0 < K 12 i ∧ K 13 i = w + 1) (by omega), decide_eq_false (p := 0 < K 12 i ∧ K 13 i ≤ w) (by omega)]; rfl
        · rw [decide_eq_false q]; rfl
      have hR : ∀ n, n ≤ K 0 2 → ce_sum (kv_bw K w) n ≤ kp_room K (kp_P K w) n := fun n hn => by
        induction n with
        | zero => exact Nat.le_refl _
        | succ n ihn =>
          have i1 := ihn (by omega)
          unfold kp_room at i1 ⊢
          rw [ce_sum, ce_sum]
          have h12 := h.rk.2.1 n
          have : kv_bw K w n ≤ if kp_P K w / 2 ^ n % 2 = 1 then K 11 n else 0 := by
            unfold kv_bw
            by_cases g : K 13 n = w + 1
            · rw [if_pos g]
              by_cases g2 : 0 < K 12 n
              · rw [if_pos ((kp_tb _ _).mpr ?_)]
                · exact h12.1
                · unfold kp_P
                  rw [kp_set_tb, decide_eq_true (p := n < K 0 2) (by omega), decide_eq_true (p := 0 < K 12 n ∧ K 13 n = w + 1) ⟨g2, g⟩]; rfl
              · omega
            · rw [if_neg g]; exact Nat.zero_le _
          omega
      have h1 := hR (K 0 2) (Nat.le_refl _)
      refine (kp_can_iff hu8 (Nat.and_self _) hu8).mpr ⟨kp_P K w, ?_, hP ▸ Nat.and_le_right, hP, by show _ ≤ kp_room K _ _; omega, by rw [hX]; exact ih⟩
      intro e0
      have hz : ∀ n, kp_room K 0 n = 0 := fun n => by
        unfold kp_room
        exact ce_sum_z (fun j _ => by rw [Nat.zero_div]; rfl)
      rw [e0, hz] at h1
      omega
theorem kp_min_sp {FL : Nat → Bool} {v : Nat} : ∀ n, (∀ u, u < n → FL u = true → kp_min FL v n ≤ kp_bits u) ∧ (kp_min FL v n = v ∨ ∃ u, u < n ∧ FL u = true ∧ kp_min FL v n = kp_bits u)
  | 0 => ⟨fun u hu => absurd hu (Nat.not_lt_zero u), Or.inl rfl⟩
  | n + 1 => by
    obtain ⟨a1, a2⟩ := kp_min_sp (FL := FL) (v := v) n
    unfold kp_min
    by_cases e : FL n = true
    · rw [if_pos e]
      refine ⟨fun u hu hF => ?_, ?_⟩
      · by_cases q : u = n
        · subst q; omega
        · have := a1 u (by omega) hF
          omega
      · by_cases q : kp_min FL v n ≤ kp_bits n
        · rw [Nat.min_eq_left q]
          rcases a2 with a2 | ⟨u, u1, u2, u3⟩
          · exact Or.inl a2
          · exact Or.inr ⟨u, by omega, u2, u3⟩
        · rw [Nat.min_eq_right (by omega)]
          exact Or.inr ⟨n, by omega, e, rfl⟩
    · rw [if_neg e]
      refine ⟨fun u hu hF => ?_, ?_⟩
      · by_cases q : u = n
        · subst q; exact absurd hF e
        · exact a1 u (by omega) hF
      · rcases a2 with a2 | ⟨u, u1, u2, u3⟩
        · exact Or.inl a2
        · exact Or.inr ⟨u, by omega, u2, u3⟩
theorem kp_bits_B {u B : Nat} (hu : u < 2 ^ B) (hB : B ≤ 8) : kp_bits u ≤ B := by
  have h : ∀ n, ce_sum (fun b => u / 2 ^ b % 2) n ≤ n := fun n => by
    induction n with
    | zero => exact Nat.le_refl _
    | succ n ih =>
      rw [ce_sum]
      have : u / 2 ^ n % 2 < 2 := Nat.mod_lt _ (by decide)
      omega
  unfold kp_bits
  rw [ce_sum_end hB (fun j h1 _ => by rw [Nat.div_eq_of_lt (Nat.lt_of_lt_of_le hu (Nat.pow_le_pow_right (by decide) h1))])]
  exact h B
theorem kb_few {K : ce_V} (h : kv_cl K) : kb_fw K (K 0 1) (2 ^ K 0 2 - 1) = kp_few K := by
  have hB := h.i7
  have h256 : 2 ^ K 0 2 ≤ 2 ^ 8 := Nat.pow_le_pow_right (by decide) hB
  have hpos : 0 < 2 ^ K 0 2 := Nat.two_pow_pos _
  obtain ⟨m1, m2, m3⟩ := kb_M_all (K := K) (K 0 1) (2 ^ K 0 2 - 1) (by omega)
  obtain ⟨n1, n2⟩ := kp_min_sp (FL := kp_fl K (K 0 1)) (v := K 0 2) (2 ^ K 0 2)
  have hall : ∀ u, u < 2 ^ K 0 2 → u &&& (2 ^ K 0 2 - 1) = u := fun u hu => by rw [Nat.and_two_pow_sub_one_eq_mod, Nat.mod_eq_of_lt hu]
  have hU := kp_U_fl h (K 0 1) h.wi
  have hUlt : kp_U K (K 0 1) < 2 ^ K 0 2 := kp_set_lt _
  have hUb := kp_bits_B hUlt hB
  have hfU := m2 _ (hall _ hUlt) hU
  unfold kp_few
  apply Nat.le_antisymm
  · rcases n2 with n2 | ⟨u, u1, u2, u3⟩
    · rw [n2]; omega
    · rw [u3]; exact m2 u (hall u u1) u2
  · rcases m3 with m3 | ⟨u, u1, u2, u3⟩
    · omega
    · have : u ≤ 2 ^ K 0 2 - 1 := u1 ▸ Nat.and_le_right
      rw [← u3]
      exact n1 u (by omega) u2
