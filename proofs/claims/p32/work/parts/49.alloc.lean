/-! what an allocation gives: never more than the claim, all of the reserve or all claims, and no less to a member whose claim is greater -/
theorem kv_give1_0 {K : ce_V} {c w a j : Nat} (h : a ≠ 4 ∧ a ≠ 8) : kv_give1 K c w a j = K a j := by
  unfold kv_give1
  rw [kv_up_ne h.1, kv_up_ne h.2]
theorem kv_give1_4 {K : ce_V} {c w j : Nat} : kv_give1 K c w 4 j = if j = w then K 4 w - 1 else K 4 j := by
  unfold kv_give1
  rw [kv_up_a, kv_up_ne (by decide)]
theorem kv_give1_8 {K : ce_V} {c w j : Nat} : kv_give1 K c w 8 j = if j = c * 6 + w then K 8 (c * 6 + w) + 1 else K 8 j := by
  unfold kv_give1
  rw [kv_up_ne (by decide), kv_up_a]
/-- never more than the claim -/
theorem kv_share_cl {w : Nat} : ∀ {t : Nat} {K : ce_V}, (∀ m, K 8 (m * 6 + w) ≤ K 7 (m * 6 + w)) → ∀ m, kv_share w t K 8 (m * 6 + w) ≤ K 7 (m * 6 + w) := by
  intro t
  induction t with
  | zero => intro K h; exact h
  | succ t ih =>
    intro K h m
    by_cases h0 : K 4 w = 0
    · rw [kv_share_z h0]; exact h m
    · cases hp : kv_next K w (K 0 0) with
      | none => rw [kv_share_none hp]; exact h m
      | some c =>
        have hlt := kv_next_lt hp
        rw [kv_share_some (by omega) hp]
        have i1 := ih (K := kv_give1 K c w) (fun j => by
          rw [kv_give1_8, kv_give1_0 (by decide)]
          have := h j
          split
          · rename_i e
            rw [e]; omega
          · exact this) m
        rw [kv_give1_0 (by decide)] at i1
        exact i1
/-- the turns end with nothing left, or nobody who wants more -/
theorem kv_share_end {w : Nat} : ∀ {t : Nat} {K : ce_V}, K 4 w ≤ t → kv_share w t K 4 w = 0 ∨ kv_next (kv_share w t K) w (K 0 0) = none := by
  intro t
  induction t with
  | zero => intro K h; exact Or.inl (Nat.le_zero.mp h)
  | succ t ih =>
    intro K h
    by_cases h0 : K 4 w = 0
    · rw [kv_share_z h0]; exact Or.inl h0
    · cases hp : kv_next K w (K 0 0) with
      | none => rw [kv_share_none hp]; exact Or.inr hp
      | some c =>
        rw [kv_share_some (by omega) hp]
        have i1 := ih (K := kv_give1 K c w) (by rw [kv_give1_4, if_pos rfl]; omega)
        rw [kv_give1_0 (by decide)] at i1
        exact i1
theorem kv_next_none {K : ce_V} {w : Nat} : ∀ {n : Nat}, kv_next K w n = none → ∀ m, m < n → K 7 (m * 6 + w) ≤ K 8 (m * 6 + w)
  | 0, _, m, h => absurd h (Nat.not_lt_zero m)
  | n + 1, h, m, hm => by
    unfold kv_next at h
    by_cases e : K 8 (n * 6 + w) < K 7 (n * 6 + w)
    · rw [if_pos e] at h
      split at h
      · cases h
      · split at h <;> cases h
    · rw [if_neg e] at h
      by_cases q : m = n
      · subst q; omega
      · exact kv_next_none h m (by omega)
theorem kv_all_8e {K : ce_V} {w i : Nat} : kv_all K w 8 i = kv_share w 60 K 8 i := by
  unfold kv_all
  rw [kv_up_ne (by decide), kv_end_ne (by decide)]
theorem kv_all_sum {K : ce_V} {w : Nat} : kv_sum (kv_all K w) 8 w = kv_sum (kv_share w 60 K) 8 w := by
  unfold kv_sum
  congr 1
  funext m
  exact kv_all_8e
theorem kv_cl.z78 {K : ce_V} (h : kv_cl K) {w : Nat} (hw : w < 6) (h5 : K 5 w = 0) (m : Nat) : K 8 (m * 6 + w) ≤ K 7 (m * 6 + w) := by
  by_cases hm : m < 6
  · have := h.z8 w hw (by omega) m hm
    omega
  · have h0 := h.me
    have := h.zm m w hw (by omega)
    omega
theorem kv_all_le {K : ce_V} (h : kv_cl K) {w : Nat} (hw : w < 6) (h5 : K 5 w = 0) (m : Nat) : kv_all K w 8 (m * 6 + w) ≤ K 7 (m * 6 + w) := by
  rw [kv_all_8e]
  exact kv_share_cl (h.z78 hw h5) m
theorem kv_all_min {K : ce_V} (h : kv_cl K) {w : Nat} (hw : w < 6) (h5 : K 5 w = 0) : kv_sum (kv_all K w) 8 w = min (kv_sum K 7 w) (K 4 w) := by
  have hM := h.me
  obtain ⟨p1, p2, p3, p4⟩ := kv_share_p (w := w) hw (t := 60) (K := K) hM
  have hs8 : kv_sum K 8 w = 0 := ce_sum_z (fun m hm => h.z8 w hw (by omega) m hm)
  have hbo := h.bo w hw
  have hle : kv_sum (kv_share w 60 K) 8 w ≤ kv_sum K 7 w := ce_sum_le2 (fun m _ => kv_share_cl (h.z78 hw h5) m)
  rw [kv_all_sum]
  rcases kv_share_end (w := w) (t := 60) (K := K) (by omega) with e | e
  · omega
  · have hge : kv_sum K 7 w ≤ kv_sum (kv_share w 60 K) 8 w := by
      refine ce_sum_le2 (fun m hm => ?_)
      by_cases q : m < K 0 0
      · have := kv_next_none e m q
        rw [kv_share_ne (by decide)] at this
        exact this
      · have := h.zm m w hw (by omega)
        omega
    omega
/-- a bottle that is got stays -/
theorem kv_share_up {w : Nat} : ∀ {t : Nat} {K : ce_V} (i : Nat), K 8 i ≤ kv_share w t K 8 i := by
  intro t
  induction t with
  | zero => intro K i; exact Nat.le_refl _
  | succ t ih =>
    intro K i
    by_cases h0 : K 4 w = 0
    · rw [kv_share_z h0]; exact Nat.le_refl _
    · cases hp : kv_next K w (K 0 0) with
      | none => rw [kv_share_none hp]; exact Nat.le_refl _
      | some c =>
        rw [kv_share_some (by omega) hp]
        have i1 := ih (K := kv_give1 K c w) i
        rw [kv_give1_8] at i1
        split at i1
        · rename_i e
          rw [e] at i1 ⊢; omega
        · exact i1
/-- who wants no more gets no more -/
theorem kv_share_full {w m : Nat} : ∀ {t : Nat} {K : ce_V}, K 7 (m * 6 + w) ≤ K 8 (m * 6 + w) → kv_share w t K 8 (m * 6 + w) = K 8 (m * 6 + w) := by
  intro t
  induction t with
  | zero => intro K _; rfl
  | succ t ih =>
    intro K h
    by_cases h0 : K 4 w = 0
    · rw [kv_share_z h0]
    · cases hp : kv_next K w (K 0 0) with
      | none => rw [kv_share_none hp]
      | some c =>
        have hlt := kv_next_lt hp
        rw [kv_share_some (by omega) hp]
        have hc : m * 6 + w ≠ c * 6 + w := fun e => by
          have e2 : m = c := by omega
          subst e2; omega
        have i1 := ih (K := kv_give1 K c w) (by rw [kv_give1_8, if_neg hc, kv_give1_0 (by decide)]; exact h)
        rw [kv_give1_8, if_neg hc] at i1
        exact i1
/-- two clubs that differ in one claim, which is wanted in both -/
theorem kv_next_same {K K1 : ce_V} {w i : Nat} (h1 : ∀ m, K1 1 m = K 1 m) (h8 : ∀ m, K1 8 (m * 6 + w) = K 8 (m * 6 + w)) (h7 : ∀ m, m ≠ i → K1 7 (m * 6 + w) = K 7 (m * 6 + w)) (hi : K 8 (i * 6 + w) < K 7 (i * 6 + w)) (hi1 : K 8 (i * 6 + w) < K1 7 (i * 6 + w)) : ∀ n, kv_next K1 w n = kv_next K w n
  | 0 => rfl
  | n + 1 => by
    have ih := kv_next_same h1 h8 h7 hi hi1 n
    have hg : (K 8 (n * 6 + w) < K1 7 (n * 6 + w)) = (K 8 (n * 6 + w) < K 7 (n * 6 + w)) := by
      by_cases e : n = i
      · subst e
        exact propext ⟨fun _ => hi, fun _ => hi1⟩
      · rw [h7 n e]
    unfold kv_next
    rw [ih]
    simp only [h1, h8, hg]
theorem kv_share_more {w i : Nat} : ∀ {t : Nat} {K K1 : ce_V}, K1 0 0 = K 0 0 → (∀ m, K1 1 m = K 1 m) → K1 4 w = K 4 w → (∀ m, K1 8 (m * 6 + w) = K 8 (m * 6 + w)) → (∀ m, m ≠ i → K1 7 (m * 6 + w) = K 7 (m * 6 + w)) → K 7 (i * 6 + w) ≤ K1 7 (i * 6 + w) → kv_share w t K 8 (i * 6 + w) ≤ kv_share w t K1 8 (i * 6 + w) := by
  intro t
  induction t with
  | zero => intro K K1 _ _ _ h8 _ _; exact Nat.le_of_eq (h8 i).symm
  | succ t ih =>
    intro K K1 h0 h1 h4 h8 h7 hi
    by_cases e : K 8 (i * 6 + w) < K 7 (i * 6 + w)
    · by_cases z : K 4 w = 0
      · rw [kv_share_z z, kv_share_z (h4.trans z)]
        exact Nat.le_of_eq (h8 i).symm
      · have hn := kv_next_same (w := w) h1 h8 h7 e (by omega) (K 0 0)
        cases hp : kv_next K w (K 0 0) with
        | none =>
          rw [kv_share_none hp, kv_share_none (by rw [h0, hn]; exact hp)]
          exact Nat.le_of_eq (h8 i).symm
        | some c =>
          rw [kv_share_some (by omega) hp, kv_share_some (by omega) (by rw [h0, hn]; exact hp)]
          refine ih ?_ (fun m => ?_) ?_ (fun m => ?_) (fun m hm => ?_) ?_
          · rw [kv_give1_0 (by decide), kv_give1_0 (by decide)]; exact h0
          · rw [kv_give1_0 (by decide), kv_give1_0 (by decide)]; exact h1 m
          · rw [kv_give1_4, kv_give1_4, if_pos rfl, if_pos rfl, h4]
          · rw [kv_give1_8, kv_give1_8, h8, h8]
          · rw [kv_give1_0 (by decide), kv_give1_0 (by decide)]; exact h7 m hm
          · rw [kv_give1_0 (by decide), kv_give1_0 (by decide)]; exact hi
    · rw [kv_share_full (by omega)]
      have := kv_share_up (w := w) (t := t + 1) (K := K1) (i * 6 + w)
      rw [h8] at this
      exact this
theorem kv_all_more {K : ce_V} {i w n : Nat} (hn : K 7 (i * 6 + w) ≤ n) : kv_all K w 8 (i * 6 + w) ≤ kv_all (kv_ord K i w n) w 8 (i * 6 + w) := by
  rw [kv_all_8e, kv_all_8e]
  have hne : ∀ a j, a ≠ 7 → kv_ord K i w n a j = K a j := fun a j h => by unfold kv_ord; rw [kv_up_ne h]
  refine kv_share_more (hne 0 0 (by decide)) (fun m => hne 1 m (by decide)) (hne 4 w (by decide)) (fun m => hne 8 _ (by decide)) (fun m hm => ?_) ?_
  · unfold kv_ord
    rw [kv_up_a, if_neg (by omega)]
  · unfold kv_ord
    rw [kv_up_a, if_pos rfl]
    exact hn
/-- who lost most: nobody, where all got what they claimed -/
theorem kx_sh_none {K : ce_V} {w : Nat} : ∀ n, ((kx_sh K w n).1 = none → (kx_sh K w n).2 = 0) ∧ ((kx_sh K w n).1 = none ↔ ∀ m, m < n → K 7 (m * 6 + w) ≤ kv_all K w 8 (m * 6 + w))
  | 0 => ⟨fun _ => rfl, ⟨fun _ m h => absurd h (Nat.not_lt_zero m), fun _ => rfl⟩⟩
  | n + 1 => by
    obtain ⟨i1, i2⟩ := kx_sh_none (K := K) (w := w) n
    unfold kx_sh
    by_cases e : (kx_sh K w n).2 + kv_all K w 8 (n * 6 + w) < K 7 (n * 6 + w)
    · rw [if_pos e]
      refine ⟨fun h => (by cases h), ⟨fun h => (by cases h), fun h => ?_⟩⟩
      have := h n (by omega)
      omega
    · rw [if_neg e]
      refine ⟨i1, ⟨fun h m hm => ?_, fun h => i2.mpr (fun m hm => h m (by omega))⟩⟩
      by_cases q : m = n
      · subst q
        have := i1 h
        omega
      · exact i2.mp h m (by omega)
theorem ce_sum_eqL {f f1 : Nat → Nat} : ∀ {n : Nat}, (∀ j, j < n → f j ≤ f1 j) → (ce_sum f n = ce_sum f1 n ↔ ∀ j, j < n → f1 j ≤ f j)
  | 0, _ => ⟨fun _ j h => absurd h (Nat.not_lt_zero j), fun _ => rfl⟩
  | n + 1, h => by
    have i1 := ce_sum_eqL (f := f) (f1 := f1) (n := n) (fun j hj => h j (by omega))
    have i2 := ce_sum_le2 (f := f) (f1 := f1) (n := n) (fun j hj => h j (by omega))
    have i3 := h n (by omega)
    rw [ce_sum, ce_sum]
    constructor
    · intro e j hj
      by_cases q : j = n
      · subst q; omega
      · exact i1.mp (by omega) j (by omega)
    · intro e
      have := i1.mpr (fun j hj => e j (by omega))
      have := e n (by omega)
      omega
theorem kx_sh_iff {K : ce_V} (h : kv_cl K) {w : Nat} (hw : w < 6) (h5 : K 5 w = 0) : (kx_sh K w (K 0 0)).1 = none ↔ ce_sum (fun m => kv_all K w 8 (m * 6 + w)) (K 0 0) = ce_sum (fun m => K 7 (m * 6 + w)) (K 0 0) := by
  rw [(kx_sh_none (K 0 0)).2]
  exact (ce_sum_eqL (fun m _ => kv_all_le h hw h5 m)).symm
