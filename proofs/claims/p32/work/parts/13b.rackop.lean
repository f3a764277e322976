section CEK
theorem kv_up_ne {K : ce_V} {a b i v : Nat} (h : b ≠ a) : kv_up K a i v b = K b := funext fun _ => if_neg (fun e => h e.1)
theorem kv_up_eq {K : ce_V} {a i v : Nat} : kv_up K a i v a i = v := if_pos ⟨rfl, rfl⟩
theorem kv_up_j {K : ce_V} {a b i j v : Nat} (h : j ≠ i) : kv_up K a i v b j = K b j := if_neg (fun e => h e.2)
theorem kv_up_a {K : ce_V} {a i j v : Nat} : kv_up K a i v a j = if j = i then v else K a j := by
  by_cases e : j = i
  · rw [if_pos e, e, kv_up_eq]
  · rw [if_neg e, kv_up_j e]
theorem kv_put_0 {K : ce_V} {b w n a j : Nat} (h1 : a ≠ 12) (h2 : a ≠ 13) : kv_put K b w n a j = K a j := by
  unfold kv_put
  rw [kv_up_ne h1, kv_up_ne h2]
theorem kv_put_12 {K : ce_V} {b w n j : Nat} : kv_put K b w n 12 j = if j = b then K 12 b + n else K 12 j := by
  unfold kv_put
  rw [kv_up_a, kv_up_ne (by decide)]
theorem kv_put_13 {K : ce_V} {b w n j : Nat} : kv_put K b w n 13 j = if j = b then w + 1 else K 13 j := by
  unfold kv_put
  rw [kv_up_ne (by decide), kv_up_a]
theorem kv_rem_0 {K : ce_V} {b n a j : Nat} (h1 : a ≠ 12) : kv_rem K b n a j = K a j := by
  unfold kv_rem
  rw [kv_up_ne h1]
theorem kv_rem_12 {K : ce_V} {b n j : Nat} : kv_rem K b n 12 j = if j = b then K 12 b - n else K 12 j := by
  unfold kv_rem
  rw [kv_up_a]
theorem kr_put {g : ce_D} {h b w n : Nat} {K : ce_V} (hr : ce_rK g h K) (hn : 0 < n) : ce_rK (ce_up (ce_up g (h + 2) b (nI w)) (h + 3) b (nI (K 12 b + n))) h (kv_put K b w n) := by
  obtain ⟨h1, h2, h3, h4⟩ := hr
  refine ⟨?_, ?_, ?_, ?_⟩
  · rw [ce_up_ne _ _ _ (by omega), ce_up_ne _ _ _ (by omega), kv_put_0 (by decide) (by decide)]; exact h1
  · intro j hj
    rw [ce_up_ne _ _ _ (by omega), ce_up_ne _ _ _ (by omega), kv_put_0 (by decide) (by decide)]; exact h2 j hj
  · intro j hj
    rw [kv_put_0 (by decide) (by decide)] at hj
    rw [ce_up_ne _ _ _ (by omega), ce_up_eq]
    unfold ce_wi upd
    rw [kv_put_12, kv_put_13]
    by_cases e : j = b
    · rw [if_pos e, if_pos e, if_neg (by omega), if_pos e]; rfl
    · rw [if_neg e, if_neg e, if_neg e]; exact h3 j hj
  · intro j hj
    rw [ce_up_eq, kv_put_12]
    unfold upd
    by_cases e : j = b
    · rw [if_pos e, if_pos e]
    · rw [if_neg e, if_neg e, ce_up_ne _ _ _ (by omega)]; exact h4 j hj
theorem kr_rem1 {g : ce_D} {h b n : Nat} {K : ce_V} (hr : ce_rK g h K) (hn : K 12 b - n ≠ 0) : ce_rK (ce_up g (h + 3) b (nI (K 12 b - n))) h (kv_rem K b n) := by
  obtain ⟨h1, h2, h3, h4⟩ := hr
  refine ⟨?_, ?_, ?_, ?_⟩
  · rw [ce_up_ne _ _ _ (by omega), kv_rem_0 (by decide)]; exact h1
  · intro j hj
    rw [ce_up_ne _ _ _ (by omega), kv_rem_0 (by decide)]; exact h2 j hj
  · intro j hj
    rw [kv_rem_0 (by decide)] at hj
    rw [ce_up_ne _ _ _ (by omega)]
    rw [h3 j hj]
    unfold ce_wi
    rw [kv_rem_12, kv_rem_0 (by decide)]
    by_cases e : j = b
    · rw [if_pos e, e, if_neg (by omega), if_neg hn]
    · rw [if_neg e]
  · intro j hj
    rw [ce_up_eq, kv_rem_12]
    unfold upd
    by_cases e : j = b
    · rw [if_pos e, if_pos e]
    · rw [if_neg e, if_neg e]; exact h4 j hj
theorem kr_rem2 {g : ce_D} {h b n : Nat} {K : ce_V} (hr : ce_rK g h K) (hn : K 12 b - n = 0) : ce_rK (ce_up (ce_up g (h + 3) b (nI (K 12 b - n))) (h + 2) b (-99999)) h (kv_rem K b n) := by
  obtain ⟨h1, h2, h3, h4⟩ := hr
  refine ⟨?_, ?_, ?_, ?_⟩
  · rw [ce_up_ne _ _ _ (by omega), ce_up_ne _ _ _ (by omega), kv_rem_0 (by decide)]; exact h1
  · intro j hj
    rw [ce_up_ne _ _ _ (by omega), ce_up_ne _ _ _ (by omega), kv_rem_0 (by decide)]; exact h2 j hj
  · intro j hj
    rw [kv_rem_0 (by decide)] at hj
    rw [ce_up_eq]
    unfold ce_wi upd
    rw [kv_rem_12, kv_rem_0 (by decide)]
    by_cases e : j = b
    · rw [if_pos e, if_pos e, if_pos hn]
    · rw [if_neg e, if_neg e, ce_up_ne _ _ _ (by omega)]; exact h3 j hj
  · intro j hj
    rw [ce_up_ne _ _ _ (by omega), ce_up_eq, kv_rem_12]
    unfold upd
    by_cases e : j = b
    · rw [if_pos e, if_pos e]
    · rw [if_neg e, if_neg e]; exact h4 j hj
theorem kv_rk_put {K : ce_V} (hk : kv_rk K) {b w n : Nat} (h : K 12 b + n ≤ K 11 b) (hw : w < 6) : kv_rk (kv_put K b w n) := by
  obtain ⟨k1, k2, k3, k4, k5⟩ := hk
  unfold kv_rk
  rw [kv_put_0 (by decide) (by decide)]
  refine ⟨k1, fun j => ?_, fun j hj => ?_, fun j hj => ?_, fun j hj => ?_⟩
  · rw [kv_put_12, kv_put_0 (by decide) (by decide)]
    have := k2 j
    split
    · rename_i e; subst e; omega
    · exact this
  · rw [kv_put_0 (by decide) (by decide)]; exact k3 j hj
  · rw [kv_put_12] at hj
    rw [kv_put_13]
    split
    · omega
    · rename_i e; rw [if_neg e] at hj; exact k4 j hj
  · rw [kv_put_0 (by decide) (by decide)]; exact k5 j hj
theorem kv_rk_rem {K : ce_V} (hk : kv_rk K) {b n : Nat} : kv_rk (kv_rem K b n) := by
  obtain ⟨k1, k2, k3, k4, k5⟩ := hk
  unfold kv_rk
  rw [kv_rem_0 (by decide)]
  refine ⟨k1, fun j => ?_, fun j hj => ?_, fun j hj => ?_, fun j hj => ?_⟩
  · rw [kv_rem_12, kv_rem_0 (by decide)]
    have := k2 j
    split
    · rename_i e; subst e; omega
    · exact this
  · rw [kv_rem_0 (by decide)]; exact k3 j hj
  · rw [kv_rem_12] at hj
    rw [kv_rem_0 (by decide)]
    refine k4 j ?_
    split at hj
    · rename_i e; rw [e]; omega
    · exact hj
  · rw [kv_rem_0 (by decide)]; exact k5 j hj
/-- lay and take: the steps, and what stays -/
theorem kv_lay_0 {w t : Nat} {K : ce_V} : kv_lay w t 0 K = K := by
  cases t with
  | zero => rfl
  | succ t => exact if_pos rfl
theorem kv_take_0 {w t : Nat} {K : ce_V} : kv_take w t 0 K = K := by
  cases t with
  | zero => rfl
  | succ t => exact if_pos rfl
theorem kv_rk_lay {w : Nat} (hw : w < 6) : ∀ {t left : Nat} {K : ce_V}, kv_rk K → kv_rk (kv_lay w t left K)
  | 0, _, _, hk => hk
  | t + 1, left, K, hk => by
    unfold kv_lay
    split
    · exact hk
    · split
      · exact hk
      · rename_i b hb
        have := hk.2.1 b
        exact kv_rk_lay hw (kv_rk_put hk (by omega) hw)
theorem kv_rk_take {w : Nat} : ∀ {t left : Nat} {K : ce_V}, kv_rk K → kv_rk (kv_take w t left K)
  | 0, _, _, hk => hk
  | t + 1, left, K, hk => by
    unfold kv_take
    split
    · exact hk
    · split
      · exact hk
      · exact kv_rk_take (kv_rk_rem hk)
theorem kv_lay_ne {w : Nat} {a j : Nat} (h1 : a ≠ 12) (h2 : a ≠ 13) : ∀ {t left : Nat} {K : ce_V}, kv_lay w t left K a j = K a j
  | 0, _, _ => rfl
  | t + 1, left, K => by
    unfold kv_lay
    split
    · rfl
    · generalize (kv_fill K w (K 0 2)).or (kv_eb K left (K 0 2)) = o
      cases o with
      | none => rfl
      | some b => exact (kv_lay_ne h1 h2).trans (kv_put_0 h1 h2)
theorem kv_take_ne {w : Nat} {a j : Nat} (h1 : a ≠ 12) : ∀ {t left : Nat} {K : ce_V}, kv_take w t left K a j = K a j
  | 0, _, _ => rfl
  | t + 1, left, K => by
    unfold kv_take
    split
    · rfl
    · generalize kv_tf K w (K 0 2) = o
      cases o with
      | none => rfl
      | some b => exact (kv_take_ne h1).trans (kv_rem_0 h1)
theorem kv_lay_some {K : ce_V} {w t left b : Nat} (h0 : 0 < left) (h : (kv_fill K w (K 0 2)).or (kv_eb K left (K 0 2)) = some b) : kv_lay w (t + 1) left K = kv_lay w t (left - min left (K 11 b - K 12 b)) (kv_put K b w (min left (K 11 b - K 12 b))) := by
  rw [kv_lay, if_neg (by omega), h]
theorem kv_lay_none {K : ce_V} {w t left : Nat} (h : (kv_fill K w (K 0 2)).or (kv_eb K left (K 0 2)) = none) : kv_lay w t left K = K := by
  cases t with
  | zero => rfl
  | succ t =>
    rw [kv_lay, h]
    split <;> rfl
theorem kv_take_some {K : ce_V} {w t left b : Nat} (h0 : 0 < left) (h : kv_tf K w (K 0 2) = some b) : kv_take w (t + 1) left K = kv_take w t (left - min left (K 12 b)) (kv_rem K b (min left (K 12 b))) := by
  rw [kv_take, if_neg (by omega), h]
theorem kv_take_none {K : ce_V} {w t left : Nat} (h : kv_tf K w (K 0 2) = none) : kv_take w t left K = K := by
  cases t with
  | zero => rfl
  | succ t =>
    rw [kv_take, h]
    split <;> rfl
/-- a number that an int argument stands for -/
def ce_n (x : Int32) : Nat := x.toInt.toNat
theorem ce_n_nI {a : Nat} (h : a < 2147483648) : ce_n (nI a) = a := by
  unfold ce_n
  rw [nI_toInt h]
  rfl
theorem ce_in_ex {x : Int32} {n : Nat} (h : ce_in x n) : ∃ a, a < n ∧ x = nI a := ⟨_, ce_in_of h⟩
theorem ce_ran_ex {x : Int32} {lo hi : Nat} (h : (lo : Int) ≤ x.toInt ∧ x.toInt ≤ (hi : Int)) : ∃ a, lo ≤ a ∧ a ≤ hi ∧ x = nI a := by
  obtain ⟨h1, h2⟩ := ce_in_of (x := x) (n := hi + 1) ⟨by omega, by omega⟩
  exact ⟨_, by omega, by omega, h2⟩
theorem ce_wi_eq {K : ce_V} (hk : kv_rk K) {a b : Nat} (h : 0 < K 12 a) : (K 12 b = 0 ∨ ce_wi K b = ce_wi K a) ↔ (K 12 b = 0 ∨ K 13 b = K 13 a) := by
  have h1 := hk.2.2.2.1 a h
  unfold ce_wi
  by_cases e : K 12 b = 0
  · simp [e]
  · have h2 := hk.2.2.2.1 b (by omega)
    rw [if_neg e, if_neg (by omega), nI_eq (by omega) (by omega)]
    omega
def kv_carF (K : ce_V) (x y n : Int32) : Nat := if ce_in x (K 0 2) ∧ ce_in y (K 0 2) then (if x.toInt = y.toInt ∨ n.toInt < 1 ∨ 24 < n.toInt then 2 else if n.toInt ≤ (K 12 (ce_n x) : Int) ∧ (K 12 (ce_n y) = 0 ∨ K 13 (ce_n y) = K 13 (ce_n x)) ∧ n.toInt ≤ ((K 11 (ce_n y) - K 12 (ce_n y) : Nat) : Int) then 0 else 3) else 1
/-- a bin more -/
def kv_inst (K : ce_V) (n : Nat) : ce_V := kv_up (kv_up K 11 (K 0 2) n) 0 2 (K 0 2 + 1)
/-- bottles go from a to b -/
def kv_car (K : ce_V) (a b n : Nat) : ce_V := kv_rem (kv_put K b (K 13 a - 1) n) a n
theorem kv_inst_11 {K : ce_V} {n j : Nat} : kv_inst K n 11 j = if j = K 0 2 then n else K 11 j := by
  unfold kv_inst
  rw [kv_up_ne (by decide), kv_up_a]
theorem kv_inst_b {K : ce_V} {n : Nat} : kv_inst K n 0 2 = K 0 2 + 1 := kv_up_eq
theorem kv_inst_0 {K : ce_V} {n a j : Nat} (h1 : a ≠ 0 ∨ j ≠ 2) (h2 : a ≠ 11) : kv_inst K n a j = K a j := by
  unfold kv_inst
  rw [kv_up, if_neg (by omega), kv_up_ne h2]
theorem kr_inst {g : ce_D} {h n : Nat} {K : ce_V} (hr : ce_rK g h K) (hk : kv_rk K) : ce_rK (ce_up (ce_up (ce_up g (h + 1) (K 0 2) (nI n)) (h + 2) (K 0 2) (-99999)) h 0 (nI (K 0 2 + 1))) h (kv_inst K n) := by
  obtain ⟨h1, h2, h3, h4⟩ := hr
  have hz := hk.z (Nat.le_refl (K 0 2))
  refine ⟨?_, ?_, ?_, ?_⟩
  · rw [ce_up_at, kv_inst_b]
  · intro j hj
    rw [ce_up_ne _ _ _ (by omega), ce_up_ne _ _ _ (by omega), ce_up_eq, kv_inst_11]
    unfold upd
    by_cases e : j = K 0 2
    · rw [if_pos e, if_pos e]
    · rw [if_neg e, if_neg e]; exact h2 j hj
  · intro j hj
    rw [kv_inst_b] at hj
    rw [ce_up_ne _ _ _ (by omega), ce_up_eq]
    unfold ce_wi upd
    rw [kv_inst_0 (by omega) (by decide), kv_inst_0 (by omega) (by decide)]
    by_cases e : j = K 0 2
    · rw [if_pos e, e, if_pos hz]
    · rw [if_neg e, ce_up_ne _ _ _ (by omega)]; exact h3 j (by omega)
  · intro j hj
    rw [ce_up_ne _ _ _ (by omega), ce_up_ne _ _ _ (by omega), ce_up_ne _ _ _ (by omega), kv_inst_0 (by omega) (by decide)]
    exact h4 j hj
theorem kv_rk_inst {K : ce_V} (hk : kv_rk K) {n : Nat} (h : K 0 2 < 8) (h1 : 1 ≤ n ∧ n ≤ 24) : kv_rk (kv_inst K n) := by
  have hz := hk.z (Nat.le_refl (K 0 2))
  obtain ⟨k1, k2, k3, k4, k5⟩ := hk
  unfold kv_rk
  rw [kv_inst_b]
  refine ⟨by omega, fun j => ?_, fun j hj => ?_, fun j hj => ?_, fun j hj => ?_⟩
  · rw [kv_inst_11, kv_inst_0 (by omega) (by decide)]
    have := k2 j
    split
    · rename_i e; subst e; omega
    · exact this
  · rw [kv_inst_11, if_neg (by omega)]; exact k3 j (by omega)
  · rw [kv_inst_0 (by omega) (by decide)] at hj ⊢; exact k4 j hj
  · rw [kv_inst_11]
    split
    · omega
    · exact k5 j (by omega)
theorem kv_rk_car {K : ce_V} (hk : kv_rk K) {a b n : Nat} (h : K 12 b + n ≤ K 11 b) (h1 : 0 < K 12 a) : kv_rk (kv_car K a b n) := by
  have := hk.2.2.2.1 a h1
  exact kv_rk_rem (kv_rk_put hk h (by omega))
/-- a rack that was copied -/
theorem kr_copy {g : ce_D} {h o : Nat} {K : ce_V} (hr : ce_rK g o K) (hk : kv_rk K) (hd : h + 4 ≤ o ∨ o + 4 ≤ h) : ce_rK (ce_cp (ce_cp (ce_cp (ce_up g h 0 (g o 0)) (o + 1) (h + 1) 8) (o + 2) (h + 2) 8) (o + 3) (h + 3) 8) h K := by
  obtain ⟨h1, h2, h3, h4⟩ := hr
  have hn : ∀ (g : ce_D) (a0 a n b : Nat), b ≠ a → ce_cp g a0 a n b = g b := fun g a0 a n b e => if_neg e
  have he : ∀ (g : ce_D) (a0 a n j : Nat), j < n → ce_cp g a0 a n a j = g a0 j := fun g a0 a n j e => by
    unfold ce_cp
    rw [if_pos rfl, if_pos e]
  refine ⟨?_, ?_, ?_, ?_⟩
  · rw [hn _ _ _ _ _ (by omega), hn _ _ _ _ _ (by omega), hn _ _ _ _ _ (by omega), ce_up_at]; exact h1
  · intro j hj
    rw [hn _ _ _ _ _ (by omega), hn _ _ _ _ _ (by omega), he _ _ _ _ _ hj, ce_up_ne _ _ _ (by omega)]; exact h2 j hj
  · intro j hj
    have := hk.1
    rw [hn _ _ _ _ _ (by omega), he _ _ _ _ _ (by omega), hn _ _ _ _ _ (by omega), ce_up_ne _ _ _ (by omega)]; exact h3 j hj
  · intro j hj
    rw [he _ _ _ _ _ hj, hn _ _ _ _ _ (by omega), hn _ _ _ _ _ (by omega), ce_up_ne _ _ _ (by omega)]; exact h4 j hj
end CEK
