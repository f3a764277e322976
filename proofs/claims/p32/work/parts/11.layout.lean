section CEI
/-! where things lie: arrays, tables, racks, clubs, at addresses a, h, c; each club is a block of 20 cells -/
def ce_LA (σ : ce_S) (K a n : Nat) : Prop := ce_kd σ a = K ∧ ce_ln σ a = n
def ce_LT (σ : ce_S) (h : Nat) : Prop := ce_kd σ h = 5 + 1 ∧ ce_gr σ h 0 = some (h + 1) ∧ ce_LA σ 10 (h + 1) 36
def ce_LK (σ : ce_S) (h : Nat) : Prop := ce_kd σ h = 3 + 1 ∧ (ce_gr σ h 1 = some (h + 1) ∧ ce_gr σ h 2 = some (h + 2) ∧ ce_gr σ h 3 = some (h + 3)) ∧ ce_LA σ 10 (h + 1) 8 ∧ ce_LA σ 10 (h + 2) 8 ∧ ce_LA σ 10 (h + 3) 8
def ce_LC (σ : ce_S) (c : Nat) : Prop := ce_kd σ c = 0 + 1 ∧
  (ce_gr σ c 2 = some (c + 1) ∧ ce_gr σ c 3 = some (c + 2) ∧ ce_gr σ c 4 = some (c + 3) ∧ ce_gr σ c 5 = some (c + 4) ∧ ce_gr σ c 6 = some (c + 5) ∧ ce_gr σ c 7 = some (c + 6) ∧ ce_gr σ c 8 = some (c + 7)) ∧
  (ce_gr σ c 9 = some (c + 8) ∧ ce_gr σ c 10 = some (c + 10) ∧ ce_gr σ c 11 = some (c + 12) ∧ ce_gr σ c 12 = some (c + 14) ∧ ce_gr σ c 13 = some (c + 16)) ∧
  (ce_LA σ 10 (c + 1) 6 ∧ ce_LA σ 10 (c + 2) 6 ∧ ce_LA σ 10 (c + 3) 6 ∧ ce_LA σ 10 (c + 4) 6 ∧ ce_LA σ 10 (c + 5) 6 ∧ ce_LA σ 10 (c + 6) 6 ∧ ce_LA σ 10 (c + 7) 6) ∧
  (ce_LT σ (c + 8) ∧ ce_LT σ (c + 10) ∧ ce_LT σ (c + 12) ∧ ce_LT σ (c + 14)) ∧ ce_LK σ (c + 16)
/-! sums -/
def ce_sum (f : Nat → Nat) : Nat → Nat
  | 0 => 0
  | n + 1 => ce_sum f n + f n
def ce_isum (f : Nat → Int32) : Nat → Int32
  | 0 => 0
  | n + 1 => ce_isum f n + f n
theorem ce_isum_nI {f : Nat → Int32} {F : Nat → Nat} : ∀ {n : Nat}, (∀ j, j < n → f j = nI (F j)) → ce_isum f n = nI (ce_sum F n)
  | 0, _ => rfl
  | n + 1, h => by rw [ce_isum, ce_sum, ce_isum_nI (fun j hj => h j (by omega)), h n (by omega), nI_add]
theorem ce_sum_cong {f F : Nat → Nat} : ∀ {n : Nat}, (∀ j, j < n → f j = F j) → ce_sum f n = ce_sum F n
  | 0, _ => rfl
  | n + 1, h => by rw [ce_sum, ce_sum, ce_sum_cong (fun j hj => h j (by omega)), h n (by omega)]
theorem ce_isum_cong {f F : Nat → Int32} : ∀ {n : Nat}, (∀ j, j < n → f j = F j) → ce_isum f n = ce_isum F n
  | 0, _ => rfl
  | n + 1, h => by rw [ce_isum, ce_isum, ce_isum_cong (fun j hj => h j (by omega)), h n (by omega)]
/-- an option as the class and the reference write it: none is NONE -/
def ce_o : Option Nat → Int32
  | none => -99999
  | some b => nI b
theorem ce_o_none {o : Option Nat} (hb : ∀ b, o = some b → b < 1000) : ce_o o = -99999 ↔ o = none := by
  cases o with
  | none => simp [ce_o]
  | some b =>
    have h := hb b rfl
    constructor
    · intro e
      have e1 : (nI b).toInt = (-99999 : Int32).toInt := by rw [show nI b = ce_o (some b) from rfl, e]
      rw [nI_toInt (by omega)] at e1
      have e2 : (-99999 : Int32).toInt = -99999 := by decide
      omega
    · intro e; cases e
/-- an int argument that is a number below n -/
abbrev ce_in (x : Int32) (n : Nat) : Prop := 0 ≤ x.toInt ∧ x.toInt < (n : Int)
theorem ce_in_nI {b n : Nat} (hb : b < 100000) : ce_in (nI b) n ↔ b < n := by
  unfold ce_in
  rw [nI_toInt (by omega)]
  omega
theorem ce_in_of {x : Int32} {n : Nat} (h : ce_in x n) : x.toInt.toNat < n ∧ x = nI x.toInt.toNat := by
  obtain ⟨h1, h2⟩ := h
  refine ⟨by omega, ?_⟩
  apply Int32.toInt_inj.mp
  have h3 := Int32.toInt_lt x
  rw [nI_toInt (by omega)]
  omega
end CEI
