section CEH
variable {ρ : Room} {Y : ce_Y} {kc ks pc : Nat} {L : List (Option Value)} {st : List Value} {σ : ce_S} {g : ce_D} {Q : Option Value → ce_S → ce_D → Prop} {X : String → ce_S → ce_D → Prop}
/-- the room of a method that makes nothing, d calls above the leaves -/
def ce_r (d : Nat) : Room := { frames := d, cells := 0, slots := 0, locals := 32 * d }
theorem ce_inc1 (a : Nat) : nI a + Int32.ofInt 1 = nI (a + 1) := nI_1 a
theorem ce_inc5 (a : Nat) : nI a + Int32.ofInt 5 = nI (a + 5) := nI_add a 5
theorem ce_dec {a : Nat} (h : 1 ≤ a) : nI a + Int32.ofInt (-1) = nI (a - 1) := by
  obtain ⟨b, rfl⟩ : ∃ b, a = b + 1 := ⟨a - 1, by omega⟩
  exact pk_m1 b
theorem ce_getIv {i ci k a : Nat} {v : Int32} (d : decode Y.2.1 pc = .ok (.getfield i, 3)) (hf : ce_FI Y.1.cls i ci k) (hk : ce_kd σ a = ci + 1) (hv : g a k = v) (kk : ce_WP ρ Y kc ks (pc + 3) L (.int v :: st) σ g Q X) : ce_WP ρ Y kc ks pc L (.ref a :: st) σ g Q X := by
  subst hv; exact ce_getI d hf hk kk
theorem ce_ialdv {a n len : Nat} {i v : Int32} (d : decode Y.2.1 pc = .ok (.iaload, 1)) (hk : ce_kd σ a = 10) (hi : i = nI n) (hln : ce_ln σ a = len) (hn : n < len) (hb : len ≤ 100000) (hv : g a n = v) (kk : ce_WP ρ Y kc ks (pc + 1) L (.int v :: st) σ g Q X) : ce_WP ρ Y kc ks pc L (.int i :: .ref a :: st) σ g Q X := by
  subst hv; exact ce_iald d hk hi hln hn hb kk
theorem ce_caldv {a n len : Nat} {i v : Int32} (d : decode Y.2.1 pc = .ok (.caload, 1)) (hk : ce_kd σ a = 11) (hi : i = nI n) (hln : ce_ln σ a = len) (hn : n < len) (hb : len ≤ 100000) (hv : g a n = v) (kk : ce_WP ρ Y kc ks (pc + 1) L (.int v :: st) σ g Q X) : ce_WP ρ Y kc ks pc L (.int i :: .ref a :: st) σ g Q X := by
  subst hv; exact ce_cald d hk hi hln hn hb kk
theorem ce_zaldv {a n len : Nat} {i v : Int32} (d : decode Y.2.1 pc = .ok (.baload, 1)) (hk : ce_kd σ a = 12) (hi : i = nI n) (hln : ce_ln σ a = len) (hn : n < len) (hb : len ≤ 100000) (hv : g a n = v) (kk : ce_WP ρ Y kc ks (pc + 1) L (.int v :: st) σ g Q X) : ce_WP ρ Y kc ks pc L (.int i :: .ref a :: st) σ g Q X := by
  subst hv; exact ce_zald d hk hi hln hn hb kk
theorem ce_icmp_eqN {x y : Int32} {a b : Nat} {off : Int} {tgt : Nat} (d : decode Y.2.1 pc = .ok (.if_icmp .eq off, 3)) (ht : (pc : Int) + off = (tgt : Int)) (hx : x = nI a) (hy : y = nI b) (ha : a < 2147483648) (hb : b < 2147483648) (kt : a = b → ce_WP ρ Y kc ks tgt L st σ g Q X) (kf : a ≠ b → ce_WP ρ Y kc ks (pc + 3) L st σ g Q X) : ce_WP ρ Y kc ks pc L (.int y :: .int x :: st) σ g Q X := by
  subst hx; subst hy
  exact ce_icmp_eq d ht (fun q => kt ((nI_eq ha hb).mp q)) (fun q => kf (fun e => q ((nI_eq ha hb).mpr e)))
theorem ce_icmp_neN {x y : Int32} {a b : Nat} {off : Int} {tgt : Nat} (d : decode Y.2.1 pc = .ok (.if_icmp .ne off, 3)) (ht : (pc : Int) + off = (tgt : Int)) (hx : x = nI a) (hy : y = nI b) (ha : a < 2147483648) (hb : b < 2147483648) (kt : a ≠ b → ce_WP ρ Y kc ks tgt L st σ g Q X) (kf : a = b → ce_WP ρ Y kc ks (pc + 3) L st σ g Q X) : ce_WP ρ Y kc ks pc L (.int y :: .int x :: st) σ g Q X := by
  subst hx; subst hy
  exact ce_icmp_ne d ht (fun q => kt (fun e => q ((nI_eq ha hb).mpr e))) (fun q => kf ((nI_eq ha hb).mp q))
theorem ce_icmp_ltN {x y : Int32} {a b : Nat} {off : Int} {tgt : Nat} (d : decode Y.2.1 pc = .ok (.if_icmp .lt off, 3)) (ht : (pc : Int) + off = (tgt : Int)) (hx : x = nI a) (hy : y = nI b) (ha : a < 2147483648) (hb : b < 2147483648) (kt : a < b → ce_WP ρ Y kc ks tgt L st σ g Q X) (kf : b ≤ a → ce_WP ρ Y kc ks (pc + 3) L st σ g Q X) : ce_WP ρ Y kc ks pc L (.int y :: .int x :: st) σ g Q X := by
  subst hx; subst hy
  exact ce_icmp_lt d ht (fun q => kt ((nI_ltI ha hb).mp q)) (fun q => kf (Nat.le_of_not_lt fun e => q ((nI_ltI ha hb).mpr e)))
theorem ce_icmp_geN {x y : Int32} {a b : Nat} {off : Int} {tgt : Nat} (d : decode Y.2.1 pc = .ok (.if_icmp .ge off, 3)) (ht : (pc : Int) + off = (tgt : Int)) (hx : x = nI a) (hy : y = nI b) (ha : a < 2147483648) (hb : b < 2147483648) (kt : b ≤ a → ce_WP ρ Y kc ks tgt L st σ g Q X) (kf : a < b → ce_WP ρ Y kc ks (pc + 3) L st σ g Q X) : ce_WP ρ Y kc ks pc L (.int y :: .int x :: st) σ g Q X := by
  subst hx; subst hy
  exact ce_icmp_ge d ht (fun q => kt ((nI_leI hb ha).mp q)) (fun q => kf (Nat.lt_of_not_le fun e => q ((nI_leI hb ha).mpr e)))
theorem ce_icmp_gtN {x y : Int32} {a b : Nat} {off : Int} {tgt : Nat} (d : decode Y.2.1 pc = .ok (.if_icmp .gt off, 3)) (ht : (pc : Int) + off = (tgt : Int)) (hx : x = nI a) (hy : y = nI b) (ha : a < 2147483648) (hb : b < 2147483648) (kt : b < a → ce_WP ρ Y kc ks tgt L st σ g Q X) (kf : a ≤ b → ce_WP ρ Y kc ks (pc + 3) L st σ g Q X) : ce_WP ρ Y kc ks pc L (.int y :: .int x :: st) σ g Q X := by
  subst hx; subst hy
  exact ce_icmp_gt d ht (fun q => kt ((nI_ltI hb ha).mp q)) (fun q => kf (Nat.le_of_not_lt fun e => q ((nI_ltI hb ha).mpr e)))
theorem ce_icmp_leN {x y : Int32} {a b : Nat} {off : Int} {tgt : Nat} (d : decode Y.2.1 pc = .ok (.if_icmp .le off, 3)) (ht : (pc : Int) + off = (tgt : Int)) (hx : x = nI a) (hy : y = nI b) (ha : a < 2147483648) (hb : b < 2147483648) (kt : a ≤ b → ce_WP ρ Y kc ks tgt L st σ g Q X) (kf : b < a → ce_WP ρ Y kc ks (pc + 3) L st σ g Q X) : ce_WP ρ Y kc ks pc L (.int y :: .int x :: st) σ g Q X := by
  subst hx; subst hy
  exact ce_icmp_le d ht (fun q => kt ((nI_leI ha hb).mp q)) (fun q => kf (Nat.lt_of_not_le fun e => q ((nI_leI ha hb).mpr e)))
theorem ce_if_eqN {x : Int32} {a : Nat} {off : Int} {tgt : Nat} (d : decode Y.2.1 pc = .ok (.ifCond .eq off, 3)) (ht : (pc : Int) + off = (tgt : Int)) (hx : x = nI a) (ha : a < 2147483648) (kt : a = 0 → ce_WP ρ Y kc ks tgt L st σ g Q X) (kf : a ≠ 0 → ce_WP ρ Y kc ks (pc + 3) L st σ g Q X) : ce_WP ρ Y kc ks pc L (.int x :: st) σ g Q X := by
  subst hx
  have hb : (0 : Nat) < 2147483648 := by decide
  exact ce_if_eq d ht (fun q => kt ((nI_eq ha hb).mp q)) (fun q => kf (fun e => q ((nI_eq ha hb).mpr e)))
theorem ce_if_neN {x : Int32} {a : Nat} {off : Int} {tgt : Nat} (d : decode Y.2.1 pc = .ok (.ifCond .ne off, 3)) (ht : (pc : Int) + off = (tgt : Int)) (hx : x = nI a) (ha : a < 2147483648) (kt : a ≠ 0 → ce_WP ρ Y kc ks tgt L st σ g Q X) (kf : a = 0 → ce_WP ρ Y kc ks (pc + 3) L st σ g Q X) : ce_WP ρ Y kc ks pc L (.int x :: st) σ g Q X := by
  subst hx
  have hb : (0 : Nat) < 2147483648 := by decide
  exact ce_if_ne d ht (fun q => kt (fun e => q ((nI_eq ha hb).mpr e))) (fun q => kf ((nI_eq ha hb).mp q))
theorem ce_if_ltN {x : Int32} {a : Nat} {off : Int} {tgt : Nat} (d : decode Y.2.1 pc = .ok (.ifCond .lt off, 3)) (ht : (pc : Int) + off = (tgt : Int)) (hx : x = nI a) (ha : a < 2147483648) (kt : a < 0 → ce_WP ρ Y kc ks tgt L st σ g Q X) (kf : 0 ≤ a → ce_WP ρ Y kc ks (pc + 3) L st σ g Q X) : ce_WP ρ Y kc ks pc L (.int x :: st) σ g Q X := by
  subst hx
  have hb : (0 : Nat) < 2147483648 := by decide
  exact ce_if_lt d ht (fun q => kt ((nI_ltI ha hb).mp q)) (fun q => kf (Nat.le_of_not_lt fun e => q ((nI_ltI ha hb).mpr e)))
theorem ce_if_geN {x : Int32} {a : Nat} {off : Int} {tgt : Nat} (d : decode Y.2.1 pc = .ok (.ifCond .ge off, 3)) (ht : (pc : Int) + off = (tgt : Int)) (hx : x = nI a) (ha : a < 2147483648) (kt : 0 ≤ a → ce_WP ρ Y kc ks tgt L st σ g Q X) (kf : a < 0 → ce_WP ρ Y kc ks (pc + 3) L st σ g Q X) : ce_WP ρ Y kc ks pc L (.int x :: st) σ g Q X := by
  subst hx
  have hb : (0 : Nat) < 2147483648 := by decide
  exact ce_if_ge d ht (fun q => kt ((nI_leI hb ha).mp q)) (fun q => kf (Nat.lt_of_not_le fun e => q ((nI_leI hb ha).mpr e)))
theorem ce_if_gtN {x : Int32} {a : Nat} {off : Int} {tgt : Nat} (d : decode Y.2.1 pc = .ok (.ifCond .gt off, 3)) (ht : (pc : Int) + off = (tgt : Int)) (hx : x = nI a) (ha : a < 2147483648) (kt : 0 < a → ce_WP ρ Y kc ks tgt L st σ g Q X) (kf : a ≤ 0 → ce_WP ρ Y kc ks (pc + 3) L st σ g Q X) : ce_WP ρ Y kc ks pc L (.int x :: st) σ g Q X := by
  subst hx
  have hb : (0 : Nat) < 2147483648 := by decide
  exact ce_if_gt d ht (fun q => kt ((nI_ltI hb ha).mp q)) (fun q => kf (Nat.le_of_not_lt fun e => q ((nI_ltI hb ha).mpr e)))
theorem ce_if_leN {x : Int32} {a : Nat} {off : Int} {tgt : Nat} (d : decode Y.2.1 pc = .ok (.ifCond .le off, 3)) (ht : (pc : Int) + off = (tgt : Int)) (hx : x = nI a) (ha : a < 2147483648) (kt : a ≤ 0 → ce_WP ρ Y kc ks tgt L st σ g Q X) (kf : 0 < a → ce_WP ρ Y kc ks (pc + 3) L st σ g Q X) : ce_WP ρ Y kc ks pc L (.int x :: st) σ g Q X := by
  subst hx
  have hb : (0 : Nat) < 2147483648 := by decide
  exact ce_if_le d ht (fun q => kt ((nI_leI ha hb).mp q)) (fun q => kf (Nat.lt_of_not_le fun e => q ((nI_leI ha hb).mpr e)))
theorem ce_if_eqB {P : Prop} [Decidable P] {x : Int32} {off : Int} {tgt : Nat} (d : decode Y.2.1 pc = .ok (.ifCond .eq off, 3)) (ht : (pc : Int) + off = (tgt : Int)) (hx : x = if P then 1 else 0) (kt : ¬ P → ce_WP ρ Y kc ks tgt L st σ g Q X) (kf : P → ce_WP ρ Y kc ks (pc + 3) L st σ g Q X) : ce_WP ρ Y kc ks pc L (.int x :: st) σ g Q X := by
  subst hx
  exact ce_if_eq d ht (fun q => kt (fun p => by rw [if_pos p] at q; exact absurd q (by decide))) (fun q => kf (Decidable.byContradiction fun p => q (by rw [if_neg p])))
theorem ce_if_neB {P : Prop} [Decidable P] {x : Int32} {off : Int} {tgt : Nat} (d : decode Y.2.1 pc = .ok (.ifCond .ne off, 3)) (ht : (pc : Int) + off = (tgt : Int)) (hx : x = if P then 1 else 0) (kt : P → ce_WP ρ Y kc ks tgt L st σ g Q X) (kf : ¬ P → ce_WP ρ Y kc ks (pc + 3) L st σ g Q X) : ce_WP ρ Y kc ks pc L (.int x :: st) σ g Q X := by
  subst hx
  exact ce_if_ne d ht (fun q => kt (Decidable.byContradiction fun p => q (by rw [if_neg p]))) (fun q => kf (fun p => by rw [if_pos p] at q; exact absurd q (by decide)))
theorem ce_lg_lt {p q : Int64} : (lg_cmp p q < 0 ↔ p < q) ∧ (lg_cmp p q = 0 ↔ p = q) ∧ (0 < lg_cmp p q ↔ q < p) := by
  unfold lg_cmp
  by_cases h1 : q < p
  · have h2 : ¬ p < q := lg_lt_not h1
    have h3 : ¬ p = q := fun e => by subst e; exact h2 h1
    simp [h1, h2, h3]
  · by_cases h3 : p = q
    · subst h3; simp [h1]
    · have h2 : p < q := by
        rcases Int.lt_trichotomy p.toInt q.toInt with h | h | h
        · exact Int64.lt_iff_toInt_lt.mpr h
        · exact absurd (Int64.toInt_inj.mp h) h3
        · exact absurd (Int64.lt_iff_toInt_lt.mpr h) h1
      simp [h1, h2, h3]
theorem ce_if_eqC {x : Int32} {p q : Int64} {off : Int} {tgt : Nat} (d : decode Y.2.1 pc = .ok (.ifCond .eq off, 3)) (ht : (pc : Int) + off = (tgt : Int)) (hx : x = lg_cmp p q) (kt : p = q → ce_WP ρ Y kc ks tgt L st σ g Q X) (kf : ¬ p = q → ce_WP ρ Y kc ks (pc + 3) L st σ g Q X) : ce_WP ρ Y kc ks pc L (.int x :: st) σ g Q X := by
  subst hx
  exact ce_if_eq d ht (fun z => kt ((ce_lg_lt.2.1).mp z)) (fun z => kf (fun e => z ((ce_lg_lt.2.1).mpr e)))
theorem ce_if_neC {x : Int32} {p q : Int64} {off : Int} {tgt : Nat} (d : decode Y.2.1 pc = .ok (.ifCond .ne off, 3)) (ht : (pc : Int) + off = (tgt : Int)) (hx : x = lg_cmp p q) (kt : ¬ p = q → ce_WP ρ Y kc ks tgt L st σ g Q X) (kf : p = q → ce_WP ρ Y kc ks (pc + 3) L st σ g Q X) : ce_WP ρ Y kc ks pc L (.int x :: st) σ g Q X := by
  subst hx
  exact ce_if_ne d ht (fun z => kt (fun e => z ((ce_lg_lt.2.1).mpr e))) (fun z => kf ((ce_lg_lt.2.1).mp z))
theorem ce_if_ltC {x : Int32} {p q : Int64} {off : Int} {tgt : Nat} (d : decode Y.2.1 pc = .ok (.ifCond .lt off, 3)) (ht : (pc : Int) + off = (tgt : Int)) (hx : x = lg_cmp p q) (kt : p < q → ce_WP ρ Y kc ks tgt L st σ g Q X) (kf : ¬ p < q → ce_WP ρ Y kc ks (pc + 3) L st σ g Q X) : ce_WP ρ Y kc ks pc L (.int x :: st) σ g Q X := by
  subst hx
  exact ce_if_lt d ht (fun z => kt ((ce_lg_lt.1).mp z)) (fun z => kf (fun e => z ((ce_lg_lt.1).mpr e)))
theorem ce_if_geC {x : Int32} {p q : Int64} {off : Int} {tgt : Nat} (d : decode Y.2.1 pc = .ok (.ifCond .ge off, 3)) (ht : (pc : Int) + off = (tgt : Int)) (hx : x = lg_cmp p q) (kt : ¬ p < q → ce_WP ρ Y kc ks tgt L st σ g Q X) (kf : p < q → ce_WP ρ Y kc ks (pc + 3) L st σ g Q X) : ce_WP ρ Y kc ks pc L (.int x :: st) σ g Q X := by
  subst hx
  exact ce_if_ge d ht (fun z => kt (fun e => absurd ((ce_lg_lt.1).mpr e) (Int32.not_lt.mpr z))) (fun z => kf ((ce_lg_lt.1).mp (Int32.not_le.mp z)))
theorem ce_if_gtC {x : Int32} {p q : Int64} {off : Int} {tgt : Nat} (d : decode Y.2.1 pc = .ok (.ifCond .gt off, 3)) (ht : (pc : Int) + off = (tgt : Int)) (hx : x = lg_cmp p q) (kt : q < p → ce_WP ρ Y kc ks tgt L st σ g Q X) (kf : ¬ q < p → ce_WP ρ Y kc ks (pc + 3) L st σ g Q X) : ce_WP ρ Y kc ks pc L (.int x :: st) σ g Q X := by
  subst hx
  exact ce_if_gt d ht (fun z => kt ((ce_lg_lt.2.2).mp z)) (fun z => kf (fun e => z ((ce_lg_lt.2.2).mpr e)))
theorem ce_if_leC {x : Int32} {p q : Int64} {off : Int} {tgt : Nat} (d : decode Y.2.1 pc = .ok (.ifCond .le off, 3)) (ht : (pc : Int) + off = (tgt : Int)) (hx : x = lg_cmp p q) (kt : ¬ q < p → ce_WP ρ Y kc ks tgt L st σ g Q X) (kf : q < p → ce_WP ρ Y kc ks (pc + 3) L st σ g Q X) : ce_WP ρ Y kc ks pc L (.int x :: st) σ g Q X := by
  subst hx
  exact ce_if_le d ht (fun z => kt (fun e => absurd ((ce_lg_lt.2.2).mpr e) (Int32.not_lt.mpr z))) (fun z => kf ((ce_lg_lt.2.2).mp (Int32.not_le.mp z)))
theorem ce_icmp_eqI {x y : Int32} {p q : Int} {off : Int} {tgt : Nat} (d : decode Y.2.1 pc = .ok (.if_icmp .eq off, 3)) (ht : (pc : Int) + off = (tgt : Int)) (hx : x.toInt = p) (hy : y.toInt = q) (kt : p = q → ce_WP ρ Y kc ks tgt L st σ g Q X) (kf : p ≠ q → ce_WP ρ Y kc ks (pc + 3) L st σ g Q X) : ce_WP ρ Y kc ks pc L (.int y :: .int x :: st) σ g Q X := by
  subst hx; subst hy
  exact ce_icmp_eq d ht (fun z => kt (congrArg Int32.toInt z)) (fun z => kf (fun e => z (Int32.toInt_inj.mp e)))
theorem ce_if_eqI {x : Int32} {p : Int} {off : Int} {tgt : Nat} (d : decode Y.2.1 pc = .ok (.ifCond .eq off, 3)) (ht : (pc : Int) + off = (tgt : Int)) (hx : x.toInt = p) (kt : p = 0 → ce_WP ρ Y kc ks tgt L st σ g Q X) (kf : p ≠ 0 → ce_WP ρ Y kc ks (pc + 3) L st σ g Q X) : ce_WP ρ Y kc ks pc L (.int x :: st) σ g Q X := by
  subst hx
  exact ce_if_eq d ht (fun z => kt (congrArg Int32.toInt z)) (fun z => kf (fun e => z (Int32.toInt_inj.mp e)))
theorem ce_icmp_neI {x y : Int32} {p q : Int} {off : Int} {tgt : Nat} (d : decode Y.2.1 pc = .ok (.if_icmp .ne off, 3)) (ht : (pc : Int) + off = (tgt : Int)) (hx : x.toInt = p) (hy : y.toInt = q) (kt : p ≠ q → ce_WP ρ Y kc ks tgt L st σ g Q X) (kf : p = q → ce_WP ρ Y kc ks (pc + 3) L st σ g Q X) : ce_WP ρ Y kc ks pc L (.int y :: .int x :: st) σ g Q X := by
  subst hx; subst hy
  exact ce_icmp_ne d ht (fun z => kt (fun e => z (Int32.toInt_inj.mp e))) (fun z => kf (congrArg Int32.toInt z))
theorem ce_if_neI {x : Int32} {p : Int} {off : Int} {tgt : Nat} (d : decode Y.2.1 pc = .ok (.ifCond .ne off, 3)) (ht : (pc : Int) + off = (tgt : Int)) (hx : x.toInt = p) (kt : p ≠ 0 → ce_WP ρ Y kc ks tgt L st σ g Q X) (kf : p = 0 → ce_WP ρ Y kc ks (pc + 3) L st σ g Q X) : ce_WP ρ Y kc ks pc L (.int x :: st) σ g Q X := by
  subst hx
  exact ce_if_ne d ht (fun z => kt (fun e => z (Int32.toInt_inj.mp e))) (fun z => kf (congrArg Int32.toInt z))
theorem ce_icmp_ltI {x y : Int32} {p q : Int} {off : Int} {tgt : Nat} (d : decode Y.2.1 pc = .ok (.if_icmp .lt off, 3)) (ht : (pc : Int) + off = (tgt : Int)) (hx : x.toInt = p) (hy : y.toInt = q) (kt : p < q → ce_WP ρ Y kc ks tgt L st σ g Q X) (kf : q ≤ p → ce_WP ρ Y kc ks (pc + 3) L st σ g Q X) : ce_WP ρ Y kc ks pc L (.int y :: .int x :: st) σ g Q X := by
  subst hx; subst hy
  exact ce_icmp_lt d ht (fun z => kt (Int32.lt_iff_toInt_lt.mp z)) (fun z => kf (Int.not_lt.mp fun e => z (Int32.lt_iff_toInt_lt.mpr e)))
theorem ce_if_ltI {x : Int32} {p : Int} {off : Int} {tgt : Nat} (d : decode Y.2.1 pc = .ok (.ifCond .lt off, 3)) (ht : (pc : Int) + off = (tgt : Int)) (hx : x.toInt = p) (kt : p < 0 → ce_WP ρ Y kc ks tgt L st σ g Q X) (kf : 0 ≤ p → ce_WP ρ Y kc ks (pc + 3) L st σ g Q X) : ce_WP ρ Y kc ks pc L (.int x :: st) σ g Q X := by
  subst hx
  exact ce_if_lt d ht (fun z => kt (Int32.lt_iff_toInt_lt.mp z)) (fun z => kf (Int.not_lt.mp fun e => z (Int32.lt_iff_toInt_lt.mpr e)))
theorem ce_icmp_geI {x y : Int32} {p q : Int} {off : Int} {tgt : Nat} (d : decode Y.2.1 pc = .ok (.if_icmp .ge off, 3)) (ht : (pc : Int) + off = (tgt : Int)) (hx : x.toInt = p) (hy : y.toInt = q) (kt : q ≤ p → ce_WP ρ Y kc ks tgt L st σ g Q X) (kf : p < q → ce_WP ρ Y kc ks (pc + 3) L st σ g Q X) : ce_WP ρ Y kc ks pc L (.int y :: .int x :: st) σ g Q X := by
  subst hx; subst hy
  exact ce_icmp_ge d ht (fun z => kt (Int32.le_iff_toInt_le.mp z)) (fun z => kf (Int.not_le.mp fun e => z (Int32.le_iff_toInt_le.mpr e)))
theorem ce_if_geI {x : Int32} {p : Int} {off : Int} {tgt : Nat} (d : decode Y.2.1 pc = .ok (.ifCond .ge off, 3)) (ht : (pc : Int) + off = (tgt : Int)) (hx : x.toInt = p) (kt : 0 ≤ p → ce_WP ρ Y kc ks tgt L st σ g Q X) (kf : p < 0 → ce_WP ρ Y kc ks (pc + 3) L st σ g Q X) : ce_WP ρ Y kc ks pc L (.int x :: st) σ g Q X := by
  subst hx
  exact ce_if_ge d ht (fun z => kt (Int32.le_iff_toInt_le.mp z)) (fun z => kf (Int.not_le.mp fun e => z (Int32.le_iff_toInt_le.mpr e)))
theorem ce_icmp_gtI {x y : Int32} {p q : Int} {off : Int} {tgt : Nat} (d : decode Y.2.1 pc = .ok (.if_icmp .gt off, 3)) (ht : (pc : Int) + off = (tgt : Int)) (hx : x.toInt = p) (hy : y.toInt = q) (kt : q < p → ce_WP ρ Y kc ks tgt L st σ g Q X) (kf : p ≤ q → ce_WP ρ Y kc ks (pc + 3) L st σ g Q X) : ce_WP ρ Y kc ks pc L (.int y :: .int x :: st) σ g Q X := by
  subst hx; subst hy
  exact ce_icmp_gt d ht (fun z => kt (Int32.lt_iff_toInt_lt.mp z)) (fun z => kf (Int.not_lt.mp fun e => z (Int32.lt_iff_toInt_lt.mpr e)))
theorem ce_if_gtI {x : Int32} {p : Int} {off : Int} {tgt : Nat} (d : decode Y.2.1 pc = .ok (.ifCond .gt off, 3)) (ht : (pc : Int) + off = (tgt : Int)) (hx : x.toInt = p) (kt : 0 < p → ce_WP ρ Y kc ks tgt L st σ g Q X) (kf : p ≤ 0 → ce_WP ρ Y kc ks (pc + 3) L st σ g Q X) : ce_WP ρ Y kc ks pc L (.int x :: st) σ g Q X := by
  subst hx
  exact ce_if_gt d ht (fun z => kt (Int32.lt_iff_toInt_lt.mp z)) (fun z => kf (Int.not_lt.mp fun e => z (Int32.lt_iff_toInt_lt.mpr e)))
theorem ce_icmp_leI {x y : Int32} {p q : Int} {off : Int} {tgt : Nat} (d : decode Y.2.1 pc = .ok (.if_icmp .le off, 3)) (ht : (pc : Int) + off = (tgt : Int)) (hx : x.toInt = p) (hy : y.toInt = q) (kt : p ≤ q → ce_WP ρ Y kc ks tgt L st σ g Q X) (kf : q < p → ce_WP ρ Y kc ks (pc + 3) L st σ g Q X) : ce_WP ρ Y kc ks pc L (.int y :: .int x :: st) σ g Q X := by
  subst hx; subst hy
  exact ce_icmp_le d ht (fun z => kt (Int32.le_iff_toInt_le.mp z)) (fun z => kf (Int.not_le.mp fun e => z (Int32.le_iff_toInt_le.mpr e)))
theorem ce_if_leI {x : Int32} {p : Int} {off : Int} {tgt : Nat} (d : decode Y.2.1 pc = .ok (.ifCond .le off, 3)) (ht : (pc : Int) + off = (tgt : Int)) (hx : x.toInt = p) (kt : p ≤ 0 → ce_WP ρ Y kc ks tgt L st σ g Q X) (kf : 0 < p → ce_WP ρ Y kc ks (pc + 3) L st σ g Q X) : ce_WP ρ Y kc ks pc L (.int x :: st) σ g Q X := by
  subst hx
  exact ce_if_le d ht (fun z => kt (Int32.le_iff_toInt_le.mp z)) (fun z => kf (Int.not_le.mp fun e => z (Int32.le_iff_toInt_le.mpr e)))
/-! the forms of contracts -/
def ce_pv (r : Int32) (σ : ce_S) (g : ce_D) : Option Value → ce_S → ce_D → Prop := fun v σ' g' => v = some (.int r) ∧ σ' = σ ∧ g' = g
def ce_qv (σ : ce_S) (g : ce_D) : Option Value → ce_S → ce_D → Prop := fun v σ' g' => v = none ∧ σ' = σ ∧ g' = g
def ce_uv (σ : ce_S) (P : ce_D → Prop) : Option Value → ce_S → ce_D → Prop := fun v σ' g' => v = none ∧ σ' = σ ∧ P g'
def ce_rv (σ : ce_S) (P : Int32 → ce_D → Prop) : Option Value → ce_S → ce_D → Prop := fun v σ' g' => ∃ r : Int32, v = some (.int r) ∧ σ' = σ ∧ P r g'
def ce_bv (σ : ce_S) (g : ce_D) (P : Int32 → Prop) : Option Value → ce_S → ce_D → Prop := fun v σ' g' => ∃ r : Int32, v = some (.int r) ∧ σ' = σ ∧ g' = g ∧ P r
abbrev ce_rz (ρ ρ' : Room) (n kc ks : Nat) : Prop := ce_rm ρ ρ' n ∧ ρ'.cells = 0 ∧ ρ'.slots = 0 ∧ kc ≤ ρ.cells ∧ ks ≤ ρ.slots
theorem ce_cVp {Y' : ce_Y} {ρ' : Room} {n idx b ci : Nat} {stk As rest : List Value} {r : Int32} (d : decode Y.2.1 pc = .ok (.invokevirtual idx, 3)) (hY : ce_MV Y' n) (hl : Cond.methodLink Y.1.cls idx Y'.1 ∈ lw_tbl) (hC : ce_CT ρ' Y' (.ref b :: As) σ g (ce_pv r σ g) ce_no) (hst : stk = As.reverse ++ .ref b :: rest) (hn : As.length = n) (hb : ce_kd σ b = ci + 1) (hcn : (vwCl[ci]?).map (fun r => r.1) = some Y'.1.cls) (hR : ce_rz ρ ρ' Y'.2.2.1 kc ks) (hrest : (rest.map fun v => v.category).sum ≤ 8) (kk : ce_WP ρ Y kc ks (pc + 3) L (.int r :: rest) σ g Q X) : ce_WP ρ Y kc ks pc L stk σ g Q X := by
  obtain ⟨hR1, hz1, hz2, hk1, hk2⟩ := hR
  refine ce_callV d hY hl hC hst hn hb hcn hR1 hrest (by rw [hz1]; exact hk1) (by rw [hz2]; exact hk2) ?_
  rw [hz1, hz2]
  rintro v σ1 g1 ⟨rfl, rfl, rfl⟩
  exact kk
theorem ce_cSp {Y' : ce_Y} {ρ' : Room} {n idx : Nat} {stk As rest : List Value} {r : Int32} (d : decode Y.2.1 pc = .ok (.invokestatic idx, 3)) (hY : ce_MS Y' n) (hl : Cond.methodLink Y.1.cls idx Y'.1 ∈ lw_tbl) (hC : ce_CT ρ' Y' As σ g (ce_pv r σ g) ce_no) (hst : stk = As.reverse ++ rest) (hn : As.length = n) (hR : ce_rz ρ ρ' Y'.2.2.1 kc ks) (hrest : (rest.map fun v => v.category).sum ≤ 8) (kk : ce_WP ρ Y kc ks (pc + 3) L (.int r :: rest) σ g Q X) : ce_WP ρ Y kc ks pc L stk σ g Q X := by
  obtain ⟨hR1, hz1, hz2, hk1, hk2⟩ := hR
  refine ce_callS d hY hl hC hst hn hR1 hrest (by rw [hz1]; exact hk1) (by rw [hz2]; exact hk2) ?_
  rw [hz1, hz2]
  rintro v σ1 g1 ⟨rfl, rfl, rfl⟩
  exact kk
theorem ce_cSNp {Y' : ce_Y} {ρ' : Room} {n idx : Nat} {host : String} {stk As rest : List Value} {r : Int32} (d : decode Y.2.1 pc = .ok (.invokestatic idx, 3)) (hY : ce_MS Y' n) (hl : Cond.methodLinkNest Y.1.cls idx Y'.1 host ∈ lw_tbl) (hC : ce_CT ρ' Y' As σ g (ce_pv r σ g) ce_no) (hst : stk = As.reverse ++ rest) (hn : As.length = n) (hR : ce_rz ρ ρ' Y'.2.2.1 kc ks) (hrest : (rest.map fun v => v.category).sum ≤ 8) (kk : ce_WP ρ Y kc ks (pc + 3) L (.int r :: rest) σ g Q X) : ce_WP ρ Y kc ks pc L stk σ g Q X := by
  obtain ⟨hR1, hz1, hz2, hk1, hk2⟩ := hR
  refine ce_callSN d hY hl hC hst hn hR1 hrest (by rw [hz1]; exact hk1) (by rw [hz2]; exact hk2) ?_
  rw [hz1, hz2]
  rintro v σ1 g1 ⟨rfl, rfl, rfl⟩
  exact kk
theorem ce_cVq {Y' : ce_Y} {ρ' : Room} {n idx b ci : Nat} {stk As rest : List Value}  (d : decode Y.2.1 pc = .ok (.invokevirtual idx, 3)) (hY : ce_MV Y' n) (hl : Cond.methodLink Y.1.cls idx Y'.1 ∈ lw_tbl) (hC : ce_CT ρ' Y' (.ref b :: As) σ g (ce_qv σ g) ce_no) (hst : stk = As.reverse ++ .ref b :: rest) (hn : As.length = n) (hb : ce_kd σ b = ci + 1) (hcn : (vwCl[ci]?).map (fun r => r.1) = some Y'.1.cls) (hR : ce_rz ρ ρ' Y'.2.2.1 kc ks) (hrest : (rest.map fun v => v.category).sum ≤ 8) (kk : ce_WP ρ Y kc ks (pc + 3) L rest σ g Q X) : ce_WP ρ Y kc ks pc L stk σ g Q X := by
  obtain ⟨hR1, hz1, hz2, hk1, hk2⟩ := hR
  refine ce_callV d hY hl hC hst hn hb hcn hR1 hrest (by rw [hz1]; exact hk1) (by rw [hz2]; exact hk2) ?_
  rw [hz1, hz2]
  rintro v σ1 g1 ⟨rfl, rfl, rfl⟩
  exact kk
theorem ce_cSq {Y' : ce_Y} {ρ' : Room} {n idx : Nat} {stk As rest : List Value}  (d : decode Y.2.1 pc = .ok (.invokestatic idx, 3)) (hY : ce_MS Y' n) (hl : Cond.methodLink Y.1.cls idx Y'.1 ∈ lw_tbl) (hC : ce_CT ρ' Y' As σ g (ce_qv σ g) ce_no) (hst : stk = As.reverse ++ rest) (hn : As.length = n) (hR : ce_rz ρ ρ' Y'.2.2.1 kc ks) (hrest : (rest.map fun v => v.category).sum ≤ 8) (kk : ce_WP ρ Y kc ks (pc + 3) L rest σ g Q X) : ce_WP ρ Y kc ks pc L stk σ g Q X := by
  obtain ⟨hR1, hz1, hz2, hk1, hk2⟩ := hR
  refine ce_callS d hY hl hC hst hn hR1 hrest (by rw [hz1]; exact hk1) (by rw [hz2]; exact hk2) ?_
  rw [hz1, hz2]
  rintro v σ1 g1 ⟨rfl, rfl, rfl⟩
  exact kk
theorem ce_cSNq {Y' : ce_Y} {ρ' : Room} {n idx : Nat} {host : String} {stk As rest : List Value}  (d : decode Y.2.1 pc = .ok (.invokestatic idx, 3)) (hY : ce_MS Y' n) (hl : Cond.methodLinkNest Y.1.cls idx Y'.1 host ∈ lw_tbl) (hC : ce_CT ρ' Y' As σ g (ce_qv σ g) ce_no) (hst : stk = As.reverse ++ rest) (hn : As.length = n) (hR : ce_rz ρ ρ' Y'.2.2.1 kc ks) (hrest : (rest.map fun v => v.category).sum ≤ 8) (kk : ce_WP ρ Y kc ks (pc + 3) L rest σ g Q X) : ce_WP ρ Y kc ks pc L stk σ g Q X := by
  obtain ⟨hR1, hz1, hz2, hk1, hk2⟩ := hR
  refine ce_callSN d hY hl hC hst hn hR1 hrest (by rw [hz1]; exact hk1) (by rw [hz2]; exact hk2) ?_
  rw [hz1, hz2]
  rintro v σ1 g1 ⟨rfl, rfl, rfl⟩
  exact kk
theorem ce_cVu {Y' : ce_Y} {ρ' : Room} {n idx b ci : Nat} {stk As rest : List Value} {P : ce_D → Prop} (d : decode Y.2.1 pc = .ok (.invokevirtual idx, 3)) (hY : ce_MV Y' n) (hl : Cond.methodLink Y.1.cls idx Y'.1 ∈ lw_tbl) (hC : ce_CT ρ' Y' (.ref b :: As) σ g (ce_uv σ P) ce_no) (hst : stk = As.reverse ++ .ref b :: rest) (hn : As.length = n) (hb : ce_kd σ b = ci + 1) (hcn : (vwCl[ci]?).map (fun r => r.1) = some Y'.1.cls) (hR : ce_rz ρ ρ' Y'.2.2.1 kc ks) (hrest : (rest.map fun v => v.category).sum ≤ 8) (kk : ∀ g1, P g1 → ce_WP ρ Y kc ks (pc + 3) L rest σ g1 Q X) : ce_WP ρ Y kc ks pc L stk σ g Q X := by
  obtain ⟨hR1, hz1, hz2, hk1, hk2⟩ := hR
  refine ce_callV d hY hl hC hst hn hb hcn hR1 hrest (by rw [hz1]; exact hk1) (by rw [hz2]; exact hk2) ?_
  rw [hz1, hz2]
  rintro v σ1 g1 ⟨rfl, rfl, h1⟩
  exact kk g1 h1
theorem ce_cSu {Y' : ce_Y} {ρ' : Room} {n idx : Nat} {stk As rest : List Value} {P : ce_D → Prop} (d : decode Y.2.1 pc = .ok (.invokestatic idx, 3)) (hY : ce_MS Y' n) (hl : Cond.methodLink Y.1.cls idx Y'.1 ∈ lw_tbl) (hC : ce_CT ρ' Y' As σ g (ce_uv σ P) ce_no) (hst : stk = As.reverse ++ rest) (hn : As.length = n) (hR : ce_rz ρ ρ' Y'.2.2.1 kc ks) (hrest : (rest.map fun v => v.category).sum ≤ 8) (kk : ∀ g1, P g1 → ce_WP ρ Y kc ks (pc + 3) L rest σ g1 Q X) : ce_WP ρ Y kc ks pc L stk σ g Q X := by
  obtain ⟨hR1, hz1, hz2, hk1, hk2⟩ := hR
  refine ce_callS d hY hl hC hst hn hR1 hrest (by rw [hz1]; exact hk1) (by rw [hz2]; exact hk2) ?_
  rw [hz1, hz2]
  rintro v σ1 g1 ⟨rfl, rfl, h1⟩
  exact kk g1 h1
theorem ce_cSNu {Y' : ce_Y} {ρ' : Room} {n idx : Nat} {host : String} {stk As rest : List Value} {P : ce_D → Prop} (d : decode Y.2.1 pc = .ok (.invokestatic idx, 3)) (hY : ce_MS Y' n) (hl : Cond.methodLinkNest Y.1.cls idx Y'.1 host ∈ lw_tbl) (hC : ce_CT ρ' Y' As σ g (ce_uv σ P) ce_no) (hst : stk = As.reverse ++ rest) (hn : As.length = n) (hR : ce_rz ρ ρ' Y'.2.2.1 kc ks) (hrest : (rest.map fun v => v.category).sum ≤ 8) (kk : ∀ g1, P g1 → ce_WP ρ Y kc ks (pc + 3) L rest σ g1 Q X) : ce_WP ρ Y kc ks pc L stk σ g Q X := by
  obtain ⟨hR1, hz1, hz2, hk1, hk2⟩ := hR
  refine ce_callSN d hY hl hC hst hn hR1 hrest (by rw [hz1]; exact hk1) (by rw [hz2]; exact hk2) ?_
  rw [hz1, hz2]
  rintro v σ1 g1 ⟨rfl, rfl, h1⟩
  exact kk g1 h1
theorem ce_cVr {Y' : ce_Y} {ρ' : Room} {n idx b ci : Nat} {stk As rest : List Value} {P : Int32 → ce_D → Prop} (d : decode Y.2.1 pc = .ok (.invokevirtual idx, 3)) (hY : ce_MV Y' n) (hl : Cond.methodLink Y.1.cls idx Y'.1 ∈ lw_tbl) (hC : ce_CT ρ' Y' (.ref b :: As) σ g (ce_rv σ P) ce_no) (hst : stk = As.reverse ++ .ref b :: rest) (hn : As.length = n) (hb : ce_kd σ b = ci + 1) (hcn : (vwCl[ci]?).map (fun r => r.1) = some Y'.1.cls) (hR : ce_rz ρ ρ' Y'.2.2.1 kc ks) (hrest : (rest.map fun v => v.category).sum ≤ 8) (kk : ∀ (r : Int32) g1, P r g1 → ce_WP ρ Y kc ks (pc + 3) L (.int r :: rest) σ g1 Q X) : ce_WP ρ Y kc ks pc L stk σ g Q X := by
  obtain ⟨hR1, hz1, hz2, hk1, hk2⟩ := hR
  refine ce_callV d hY hl hC hst hn hb hcn hR1 hrest (by rw [hz1]; exact hk1) (by rw [hz2]; exact hk2) ?_
  rw [hz1, hz2]
  rintro v σ1 g1 ⟨r, rfl, rfl, h1⟩
  exact kk r g1 h1
theorem ce_cSr {Y' : ce_Y} {ρ' : Room} {n idx : Nat} {stk As rest : List Value} {P : Int32 → ce_D → Prop} (d : decode Y.2.1 pc = .ok (.invokestatic idx, 3)) (hY : ce_MS Y' n) (hl : Cond.methodLink Y.1.cls idx Y'.1 ∈ lw_tbl) (hC : ce_CT ρ' Y' As σ g (ce_rv σ P) ce_no) (hst : stk = As.reverse ++ rest) (hn : As.length = n) (hR : ce_rz ρ ρ' Y'.2.2.1 kc ks) (hrest : (rest.map fun v => v.category).sum ≤ 8) (kk : ∀ (r : Int32) g1, P r g1 → ce_WP ρ Y kc ks (pc + 3) L (.int r :: rest) σ g1 Q X) : ce_WP ρ Y kc ks pc L stk σ g Q X := by
  obtain ⟨hR1, hz1, hz2, hk1, hk2⟩ := hR
  refine ce_callS d hY hl hC hst hn hR1 hrest (by rw [hz1]; exact hk1) (by rw [hz2]; exact hk2) ?_
  rw [hz1, hz2]
  rintro v σ1 g1 ⟨r, rfl, rfl, h1⟩
  exact kk r g1 h1
theorem ce_cSNr {Y' : ce_Y} {ρ' : Room} {n idx : Nat} {host : String} {stk As rest : List Value} {P : Int32 → ce_D → Prop} (d : decode Y.2.1 pc = .ok (.invokestatic idx, 3)) (hY : ce_MS Y' n) (hl : Cond.methodLinkNest Y.1.cls idx Y'.1 host ∈ lw_tbl) (hC : ce_CT ρ' Y' As σ g (ce_rv σ P) ce_no) (hst : stk = As.reverse ++ rest) (hn : As.length = n) (hR : ce_rz ρ ρ' Y'.2.2.1 kc ks) (hrest : (rest.map fun v => v.category).sum ≤ 8) (kk : ∀ (r : Int32) g1, P r g1 → ce_WP ρ Y kc ks (pc + 3) L (.int r :: rest) σ g1 Q X) : ce_WP ρ Y kc ks pc L stk σ g Q X := by
  obtain ⟨hR1, hz1, hz2, hk1, hk2⟩ := hR
  refine ce_callSN d hY hl hC hst hn hR1 hrest (by rw [hz1]; exact hk1) (by rw [hz2]; exact hk2) ?_
  rw [hz1, hz2]
  rintro v σ1 g1 ⟨r, rfl, rfl, h1⟩
  exact kk r g1 h1
theorem ce_cVb {Y' : ce_Y} {ρ' : Room} {n idx b ci : Nat} {stk As rest : List Value} {P : Int32 → Prop} (d : decode Y.2.1 pc = .ok (.invokevirtual idx, 3)) (hY : ce_MV Y' n) (hl : Cond.methodLink Y.1.cls idx Y'.1 ∈ lw_tbl) (hC : ce_CT ρ' Y' (.ref b :: As) σ g (ce_bv σ g P) ce_no) (hst : stk = As.reverse ++ .ref b :: rest) (hn : As.length = n) (hb : ce_kd σ b = ci + 1) (hcn : (vwCl[ci]?).map (fun r => r.1) = some Y'.1.cls) (hR : ce_rz ρ ρ' Y'.2.2.1 kc ks) (hrest : (rest.map fun v => v.category).sum ≤ 8) (kk : ∀ (r : Int32), P r → ce_WP ρ Y kc ks (pc + 3) L (.int r :: rest) σ g Q X) : ce_WP ρ Y kc ks pc L stk σ g Q X := by
  obtain ⟨hR1, hz1, hz2, hk1, hk2⟩ := hR
  refine ce_callV d hY hl hC hst hn hb hcn hR1 hrest (by rw [hz1]; exact hk1) (by rw [hz2]; exact hk2) ?_
  rw [hz1, hz2]
  rintro v σ1 g1 ⟨r, rfl, rfl, rfl, h1⟩
  exact kk r h1
theorem ce_cSb {Y' : ce_Y} {ρ' : Room} {n idx : Nat} {stk As rest : List Value} {P : Int32 → Prop} (d : decode Y.2.1 pc = .ok (.invokestatic idx, 3)) (hY : ce_MS Y' n) (hl : Cond.methodLink Y.1.cls idx Y'.1 ∈ lw_tbl) (hC : ce_CT ρ' Y' As σ g (ce_bv σ g P) ce_no) (hst : stk = As.reverse ++ rest) (hn : As.length = n) (hR : ce_rz ρ ρ' Y'.2.2.1 kc ks) (hrest : (rest.map fun v => v.category).sum ≤ 8) (kk : ∀ (r : Int32), P r → ce_WP ρ Y kc ks (pc + 3) L (.int r :: rest) σ g Q X) : ce_WP ρ Y kc ks pc L stk σ g Q X := by
  obtain ⟨hR1, hz1, hz2, hk1, hk2⟩ := hR
  refine ce_callS d hY hl hC hst hn hR1 hrest (by rw [hz1]; exact hk1) (by rw [hz2]; exact hk2) ?_
  rw [hz1, hz2]
  rintro v σ1 g1 ⟨r, rfl, rfl, rfl, h1⟩
  exact kk r h1
theorem ce_cSNb {Y' : ce_Y} {ρ' : Room} {n idx : Nat} {host : String} {stk As rest : List Value} {P : Int32 → Prop} (d : decode Y.2.1 pc = .ok (.invokestatic idx, 3)) (hY : ce_MS Y' n) (hl : Cond.methodLinkNest Y.1.cls idx Y'.1 host ∈ lw_tbl) (hC : ce_CT ρ' Y' As σ g (ce_bv σ g P) ce_no) (hst : stk = As.reverse ++ rest) (hn : As.length = n) (hR : ce_rz ρ ρ' Y'.2.2.1 kc ks) (hrest : (rest.map fun v => v.category).sum ≤ 8) (kk : ∀ (r : Int32), P r → ce_WP ρ Y kc ks (pc + 3) L (.int r :: rest) σ g Q X) : ce_WP ρ Y kc ks pc L stk σ g Q X := by
  obtain ⟨hR1, hz1, hz2, hk1, hk2⟩ := hR
  refine ce_callSN d hY hl hC hst hn hR1 hrest (by rw [hz1]; exact hk1) (by rw [hz2]; exact hk2) ?_
  rw [hz1, hz2]
  rintro v σ1 g1 ⟨r, rfl, rfl, rfl, h1⟩
  exact kk r h1
theorem ce_min {a b idx : Nat} {x y : Int32} (d : decode Y.2.1 pc = .ok (.invokestatic idx, 3)) (hl : Cond.methodLink Y.1.cls idx Lib.Math.min.name ∈ lw_tbl) (hx : x = nI a) (hy : y = nI b) (ha : a < 2147483648) (hb : b < 2147483648) (hf : 1 ≤ ρ.frames ∧ kc ≤ ρ.cells ∧ ks ≤ ρ.slots) (hlo : (st.map fun v => v.category).sum + 13 ≤ ρ.locals) (kk : ce_WP ρ Y kc ks (pc + 3) L (.int (nI (min a b)) :: st) σ g Q X) : ce_WP ρ Y kc ks pc L (.int y :: .int x :: st) σ g Q X := by
  subst hx; subst hy
  intro G A p e s m args below meth c H locs ls C I hl'
  have kk := kk G A p e s m args below meth c H locs ls C I hl'
  obtain ⟨hx, hb', hml, hr, hlk, hown, hts, hK, hZ, hnm, htab⟩ := C
  refine va_mmin hx hb' (hml.trans hl'.1.symm) hown (hts _ (ce_gw_in hl rfl Y)) (hts _ (ce_gw_in (ce_t (i := 242) (by decide +kernel)) rfl Y)) (hts _ (ce_gw_in (ce_t (i := 15) (by decide +kernel)) rfl Y)) (hts _ (ce_gw_in (ce_t (i := 243) (by decide +kernel)) rfl Y)) hf.1 hlo hf.2.1 hf.2.2 d ?_
  have e : (if nI b < nI a then nI b else nI a) = nI (min a b) := by
    by_cases h : b < a
    · rw [if_pos ((nI_ltI hb ha).mpr h), Nat.min_eq_right (by omega)]
    · rw [if_neg (fun q => h ((nI_ltI hb ha).mp q)), Nat.min_eq_left (by omega)]
  rw [e]
  exact kk
/-- a JDK method's entry -/
theorem ce_enterF {av : List Value} (hpl : plainFor Y.1 = true) (hh : Y.2.2.2.2 = []) (hlen : (ce_eL av).length ≤ Y.2.2.1) (hL : ce_pad av Y.2.2.1 = L) (k : ce_WP ρ Y 0 0 0 L [] σ g Q X) : ce_CT ρ Y av σ g Q X := by
  intro G A
  have hw : ce_ws Y = Cond.code Y.1 Y.2.1 Y.2.2.1 Y.2.2.2.1 :: ce_gw := ce_ws_eq hh
  refine Jvm.Free.MetFree.of_bodySF (code := Y.2.1) (maxLocals := Y.2.2.1) (ret := Y.2.2.2.1) hpl ?_ ?_
  · intro args s m h hn
    obtain ⟨meth, c, h1, h2, h3, h4, h5, h6, -, -⟩ := Cond.code_spec hn (atoms_spec (ws := ce_ws Y) h _ (by rw [hw]; exact List.mem_cons_self))
    exact ⟨meth, c, h1, h2, h3, h4, h5, h6⟩
  · intro p e s m args below meth c s₁ B hml hv _
    have hh0 : s₁.heap = s.heap := by rw [B.state]; rfl
    have hts := atoms_spec (ws := ce_ws Y) B.pre
    have ht : c.exceptionTable.toList = [] := by
      obtain ⟨meth9, c9, h1, h2, -, -, -, -, h7, -⟩ := Cond.code_spec B.named (hts _ (by rw [hw]; exact List.mem_cons_self))
      cases Option.some.inj (h1.symm.trans B.method)
      cases Option.some.inj (h2.symm.trans (Stand.of_body B).code)
      rw [Array.isEmpty_iff.mp h7]
    obtain ⟨rfl, h1, h2, h3, h4, h5, h6⟩ := hv
    have hl := ce_L_entry av hlen
    rw [hL] at hl
    have kk := k G A p e s m _ below meth c s.heap [] _ ⟨B.exec, B.bytes, hml, B.returns, B.notSynchronized, findClass_of_methodNamed B.named, hts, h5, h6, (name_of_methodNamed B.named B.method).1, by rw [ht, hh]; rfl⟩ ⟨h1, h2, va_S.rf, fun q hq => h3 q (by rw [← h2]; exact hq), h4⟩ hl
    rw [← lg_entry_eq] at kk
    obtain ⟨t, a1, o, b1, b2, b3⟩ := kk s₁ hh0 (Stand.of_body B)
    exact ⟨t, o, a1, b1, b2, b3⟩
end CEH
