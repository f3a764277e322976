section CEJ
/-! the abstract club: K 0 0, K 0 1, K 0 2: members, wines, bins; K 1 points, K 2 price, K 3 bought, K 4 reserve, K 5 stage, K 6 corked;
K 7 ordered, K 8 allotted, K 9 cellared, K 10 drunk (at m * 6 + w); K 11 size, K 12 bottles, K 13 wine + 1 of a bin that isn't empty. What is owed is a row of its own. -/
abbrev ce_V : Type := Nat → Nat → Nat
def kv_up (K : ce_V) (a i v : Nat) : ce_V := fun b j => if b = a ∧ j = i then v else K b j
def ce_fr (lo hi : Nat) (g g' : ce_D) : Prop := ∀ a, (a < lo ∨ hi ≤ a) → g' a = g a
theorem ce_fr.rf {lo hi : Nat} {g : ce_D} : ce_fr lo hi g g := fun _ _ => rfl
theorem ce_fr.tr {lo hi : Nat} {g g1 g2 : ce_D} (h1 : ce_fr lo hi g g1) (h2 : ce_fr lo hi g1 g2) : ce_fr lo hi g g2 := fun a ha => (h2 a ha).trans (h1 a ha)
theorem ce_fr.up {lo hi : Nat} {g g1 : ce_D} (h1 : ce_fr lo hi g g1) {a : Nat} (k : Nat) (x : Int32) (h : lo ≤ a ∧ a < hi) : ce_fr lo hi g (ce_up g1 a k x) := fun b hb => (ce_up_ne g1 k x (by omega)).trans (h1 b hb)
theorem ce_fr.cp {lo hi : Nat} {g g1 : ce_D} (h1 : ce_fr lo hi g g1) {a0 a n : Nat} (h : lo ≤ a ∧ a < hi) : ce_fr lo hi g (ce_cp g1 a0 a n) := fun b hb => (if_neg (by omega)).trans (h1 b hb)
theorem ce_fr.wk {lo hi l2 h2 : Nat} {g g1 : ce_D} (h1 : ce_fr lo hi g g1) (h : l2 ≤ lo ∧ hi ≤ h2) : ce_fr l2 h2 g g1 := fun b hb => h1 b (by omega)
def ce_rA (g : ce_D) (a n : Nat) (f : Nat → Nat) : Prop := ∀ j, j < n → g a j = nI (f j)
theorem ce_rA.kp {g g' : ce_D} {a n : Nat} {f : Nat → Nat} (h : ce_rA g a n f) (e : g' a = g a) : ce_rA g' a n f := fun j hj => by rw [e]; exact h j hj
theorem ce_rA.up {g : ce_D} {a n : Nat} {f f' : Nat → Nat} (h : ce_rA g a n f) {i v : Nat} {x : Int32} (hx : x = nI v) (hv : f' i = v) (ho : ∀ j, j < n → j ≠ i → f' j = f j) : ce_rA (ce_up g a i x) a n f' := by
  intro j hj
  rw [ce_up_eq]
  unfold upd
  by_cases e : j = i
  · rw [if_pos e, e, hv, hx]
  · rw [if_neg e, ho j hj e]; exact h j hj
def ce_wi (K : ce_V) (b : Nat) : Int32 := if K 12 b = 0 then -99999 else nI (K 13 b - 1)
def ce_rK (g : ce_D) (h : Nat) (K : ce_V) : Prop := g h 0 = nI (K 0 2) ∧ ce_rA g (h + 1) 8 (K 11) ∧ (∀ b, b < K 0 2 → g (h + 2) b = ce_wi K b) ∧ ce_rA g (h + 3) 8 (K 12)
theorem ce_rK.kp {g g' : ce_D} {h : Nat} {K : ce_V} (hr : ce_rK g h K) (e : ∀ i, i < 4 → g' (h + i) = g (h + i)) : ce_rK g' h K := by
  obtain ⟨h1, h2, h3, h4⟩ := hr
  have e0 := e 0 (by omega)
  have e1 := e 1 (by omega)
  have e2 := e 2 (by omega)
  have e3 := e 3 (by omega)
  exact ⟨by rw [show g' h = g h from e0]; exact h1, h2.kp e1, fun b hb => by rw [e2]; exact h3 b hb, h4.kp e3⟩
/-- what is true of the bins of every club -/
def kv_rk (K : ce_V) : Prop := K 0 2 ≤ 8 ∧ (∀ b, K 12 b ≤ K 11 b ∧ K 11 b ≤ 24) ∧ (∀ b, K 0 2 ≤ b → K 11 b = 0) ∧ (∀ b, 0 < K 12 b → 1 ≤ K 13 b ∧ K 13 b ≤ 6) ∧ (∀ b, b < K 0 2 → 1 ≤ K 11 b)
theorem kv_rk.z {K : ce_V} (h : kv_rk K) {b : Nat} (hb : K 0 2 ≤ b) : K 12 b = 0 := by
  have := (h.2.1 b).1
  have := h.2.2.1 b hb
  omega
/-- bins that are empty, among the first n -/
def kv_emp (K : ce_V) : Nat → Nat
  | 0 => 0
  | n + 1 => kv_emp K n + (if K 12 n = 0 then 1 else 0)
def kv_tk (K : ce_V) (w b : Nat) : Prop := K 12 b = 0 ∨ K 13 b = w + 1
def kv_room (K : ce_V) (w b : Nat) : Nat := if K 12 b = 0 ∨ K 13 b = w + 1 then K 11 b - K 12 b else 0
/-- the bin that is filled up first, among the first n -/
def kv_fits (K : ce_V) (w b : Nat) : Prop := 0 < K 12 b ∧ K 13 b = w + 1 ∧ K 12 b < K 11 b
def kv_fill (K : ce_V) (w : Nat) : Nat → Option Nat
  | 0 => none
  | n + 1 => if 0 < K 12 n ∧ K 13 n = w + 1 ∧ K 12 n < K 11 n then (match kv_fill K w n with
    | none => some n
    | some c => if K 11 n - K 12 n < K 11 c - K 12 c then some n else some c) else kv_fill K w n
def kv_sb (new old n : Nat) : Prop := if n ≤ old then n ≤ new ∧ new < old else old < new
/-- the empty bin for so many -/
def kv_eb (K : ce_V) (q : Nat) : Nat → Option Nat
  | 0 => none
  | n + 1 => if K 12 n = 0 then (match kv_eb K q n with
    | none => some n
    | some c => if (q ≤ K 11 c ∧ q ≤ K 11 n ∧ K 11 n < K 11 c) ∨ (K 11 c < q ∧ K 11 c < K 11 n) then some n else some c) else kv_eb K q n
/-- the bin that bottles are taken from -/
def kv_tf (K : ce_V) (w : Nat) : Nat → Option Nat
  | 0 => none
  | n + 1 => if 0 < K 12 n ∧ K 13 n = w + 1 then (match kv_tf K w n with
    | none => some n
    | some c => if K 12 n ≤ K 12 c then some n else some c) else kv_tf K w n
theorem kv_fill_lt {K : ce_V} {w : Nat} : ∀ {n c : Nat}, kv_fill K w n = some c → c < n ∧ 0 < K 12 c ∧ K 13 c = w + 1 ∧ K 12 c < K 11 c
  | 0, c, h => by cases h
  | n + 1, c, h => by
    unfold kv_fill at h
    split at h
    · rename_i hf
      cases hp : kv_fill K w n with
      | none => rw [hp] at h; cases h; exact ⟨by omega, hf⟩
      | some d =>
        rw [hp] at h
        have ih := kv_fill_lt hp
        dsimp only at h
        split at h
        · cases h; exact ⟨by omega, hf⟩
        · cases h; exact ⟨by omega, ih.2⟩
    · have ih := kv_fill_lt h
      exact ⟨by omega, ih.2⟩
theorem kv_eb_lt {K : ce_V} {q : Nat} : ∀ {n c : Nat}, kv_eb K q n = some c → c < n ∧ K 12 c = 0
  | 0, c, h => by cases h
  | n + 1, c, h => by
    unfold kv_eb at h
    split at h
    · rename_i hf
      cases hp : kv_eb K q n with
      | none => rw [hp] at h; cases h; exact ⟨by omega, hf⟩
      | some d =>
        rw [hp] at h
        have ih := kv_eb_lt hp
        dsimp only at h
        split at h
        · cases h; exact ⟨by omega, hf⟩
        · cases h; exact ⟨by omega, ih.2⟩
    · have ih := kv_eb_lt h
      exact ⟨by omega, ih.2⟩
theorem kv_tf_lt {K : ce_V} {w : Nat} : ∀ {n c : Nat}, kv_tf K w n = some c → c < n ∧ 0 < K 12 c ∧ K 13 c = w + 1
  | 0, c, h => by cases h
  | n + 1, c, h => by
    unfold kv_tf at h
    split at h
    · rename_i hf
      cases hp : kv_tf K w n with
      | none => rw [hp] at h; cases h; exact ⟨by omega, hf⟩
      | some d =>
        rw [hp] at h
        have ih := kv_tf_lt hp
        dsimp only at h
        split at h
        · cases h; exact ⟨by omega, hf⟩
        · cases h; exact ⟨by omega, ih.2⟩
    · have ih := kv_tf_lt h
      exact ⟨by omega, ih.2⟩
theorem kv_fill_none {K : ce_V} {w : Nat} : ∀ {n : Nat}, kv_fill K w n = none → ∀ b, b < n → ¬ (0 < K 12 b ∧ K 13 b = w + 1 ∧ K 12 b < K 11 b)
  | 0, h, b, hb => by omega
  | n + 1, h, b, hb => by
    unfold kv_fill at h
    split at h
    · split at h
      · cases h
      · split at h <;> cases h
    · rename_i hf
      by_cases e : b = n
      · rw [e]; exact hf
      · exact kv_fill_none h b (by omega)
theorem kv_eb_none {K : ce_V} {q : Nat} : ∀ {n : Nat}, kv_eb K q n = none → ∀ b, b < n → K 12 b ≠ 0
  | 0, h, b, hb => by omega
  | n + 1, h, b, hb => by
    unfold kv_eb at h
    split at h
    · split at h
      · cases h
      · split at h <;> cases h
    · rename_i hf
      by_cases e : b = n
      · rw [e]; exact hf
      · exact kv_eb_none h b (by omega)
theorem kv_tf_none {K : ce_V} {w : Nat} : ∀ {n : Nat}, kv_tf K w n = none → ∀ b, b < n → ¬ (0 < K 12 b ∧ K 13 b = w + 1)
  | 0, h, b, hb => by omega
  | n + 1, h, b, hb => by
    unfold kv_tf at h
    split at h
    · split at h
      · cases h
      · split at h <;> cases h
    · rename_i hf
      by_cases e : b = n
      · rw [e]; exact hf
      · exact kv_tf_none h b (by omega)
/-- n bottles of w come into the bin b; n go out of it -/
def kv_put (K : ce_V) (b w n : Nat) : ce_V := kv_up (kv_up K 13 b (w + 1)) 12 b (K 12 b + n)
def kv_rem (K : ce_V) (b n : Nat) : ce_V := kv_up K 12 b (K 12 b - n)
/-- bottles are laid: t turns at most -/
def kv_lay (w : Nat) : Nat → Nat → ce_V → ce_V
  | 0, _, K => K
  | t + 1, left, K => if left = 0 then K else match (kv_fill K w (K 0 2)).or (kv_eb K left (K 0 2)) with
    | none => K
    | some b => kv_lay w t (left - min left (K 11 b - K 12 b)) (kv_put K b w (min left (K 11 b - K 12 b)))
def kv_take (w : Nat) : Nat → Nat → ce_V → ce_V
  | 0, _, K => K
  | t + 1, left, K => if left = 0 then K else match kv_tf K w (K 0 2) with
    | none => K
    | some b => kv_take w t (left - min left (K 12 b)) (kv_rem K b (min left (K 12 b)))
/-- locals may be forgotten -/
def ce_le : List (Option Value) → List (Option Value) → Prop
  | [], [] => True
  | none :: a, _ :: b => ce_le a b
  | some v :: a, x :: b => x = some v ∧ ce_le a b
  | _, _ => False
theorem ce_le_n {a b : List (Option Value)} {x : Option Value} (h : ce_le a b) : ce_le (none :: a) (x :: b) := h
theorem ce_le_s {a b : List (Option Value)} {x : Option Value} {v : Value} (e : x = some v) (h : ce_le a b) : ce_le (some v :: a) (x :: b) := ⟨e, h⟩
theorem ce_le_e : ce_le [] [] := trivial
theorem ce_le_to : ∀ {a b : List (Option Value)}, ce_le a b → a.length = b.length ∧ ∀ (i : Nat) (v : Value), a[i]? = some (some v) → b[i]? = some (some v)
  | [], [], _ => ⟨rfl, fun i v e => e⟩
  | none :: a, x :: b, h => by
    have ih := ce_le_to (a := a) (b := b) h
    refine ⟨by rw [List.length_cons, List.length_cons, ih.1], fun i v e => ?_⟩
    cases i with
    | zero => cases e
    | succ i => exact ih.2 i v e
  | some w :: a, x :: b, h => by
    have ih := ce_le_to (a := a) (b := b) h.2
    refine ⟨by rw [List.length_cons, List.length_cons, ih.1], fun i v e => ?_⟩
    cases i with
    | zero => rw [← e, h.1]; rfl
    | succ i => exact ih.2 i v e
  | [], _ :: _, h => h.elim
  | none :: _, [], h => h.elim
  | some _ :: _, [], h => h.elim
theorem ce_drop {ρ : Room} {Y : ce_Y} {kc ks pc : Nat} {L L' : List (Option Value)} {st : List Value} {σ : ce_S} {g : ce_D} {Q : Option Value → ce_S → ce_D → Prop} {X : String → ce_S → ce_D → Prop} (hl : ce_le L' L) (k : ce_WP ρ Y kc ks pc L' st σ g Q X) : ce_WP ρ Y kc ks pc L st σ g Q X := fun G A p e s m args below meth c H locs ls C I hL =>
  k G A p e s m args below meth c H locs ls C I ⟨hL.1, hL.2.1, (ce_le_to hl).1.trans hL.2.2.1, fun i v e => hL.2.2.2 i v ((ce_le_to hl).2 i v e)⟩
end CEJ
