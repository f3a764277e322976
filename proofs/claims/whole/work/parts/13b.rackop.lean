section CEK
theorem kv_up_ne {K : ce_V} {a b i v : Nat} (h : b ≠ a) : kv_up K a i v b = K b := funext fun _ => if_neg (fun e => h e.1)
theorem kv_up_eq {K : ce_V} {a i v : Nat} : kv_up K a i v a i = v := if_pos ⟨rfl, rfl⟩
theorem kv_up_j {K : ce_V} {a b i j v : Nat} (h : j ≠ i) : kv_up K a i v b j = K b j := if_neg (fun e => h e.2)
theorem kv_up_a {K : ce_V} {a i j v : Nat} : kv_up K a i v a j = if j = i then v else K a j := by
  by_cases e : j = i
  · rw [if_pos e, e, kv_up_eq]
  · rw [if_neg e, kv_up_j e]
theorem kv_put_0 {K : ce_V} {b w n a j : Nat} (h1 : a ≠ 12) (h2 : a ≠ 13) : kv_put K b w n a j = K a j := by
  unfold kv_put
  rw [kv_up_ne h1, kv_up_ne h2]
theorem kv_put_12 {K : ce_V} {b w n j : Nat} : kv_put K b w n 12 j = if j = b then K 12 b + n else K 12 j := by
  unfold kv_put
  rw [kv_up_a, kv_up_ne (by decide)]
theorem kv_put_13 {K : ce_V} {b w n j : Nat} : kv_put K b w n 13 j = if j = b then w + 1 else K 13 j := by
  unfold kv_put
  rw [kv_up_ne (by decide), kv_up_a]
theorem kv_rem_0 {K : ce_V} {b n a j : Nat} (h1 : a ≠ 12) : kv_rem K b n a j = K a j := by
  unfold kv_rem
  rw [kv_up_ne h1]
theorem kv_rem_12 {K : ce_V} {b n j : Nat} : kv_rem K b n 12 j = if j = b then K 12 b - n else K 12 j := by
  unfold kv_rem
  rw [kv_up_a]
theorem kr_put {g : ce_D} {h b w n : Nat} {K : ce_V} (hr : ce_rK g h K) (hn : 0 < n) : ce_rK (ce_up (ce_up g (h + 2) b (nI w)) (h + 3) b (nI (K 12 b + n))) h (kv_put K b w n) := by
  obtain ⟨h1, h2, h3, h4⟩ := hr
  refine ⟨?_, ?_, ?_, ?_⟩
  · rw [ce_up_ne _ _ _ (by omega), ce_up_ne _ _ _ (by omega), kv_put_0 (by decide) (by decide)]; exact h1
  · intro j hj
    rw [ce_up_ne _ _ _ (by omega), ce_up_ne _ _ _ (by omega), kv_put_0 (by decide) (by decide)]; exact h2 j hj
  · intro j hj
    rw [kv_put_0 (by decide) (by decide)] at hj
    rw [ce_up_ne _ _ _ (by omega), ce_up_eq]
    unfold ce_wi upd
    rw [kv_put_12, kv_put_13]
    by_cases e : j = b
    · rw [if_pos e, if_pos e, if_neg (by omega), if_pos e]; rfl
    · rw [if_neg e, if_neg e, if_neg e]; exact h3 j hj
  · intro j hj
    rw [ce_up_eq, kv_put_12]
    unfold upd
    by_cases e : j = b
    · rw [if_pos e, if_pos e]
    · rw [if_neg e, if_neg e, ce_up_ne _ _ _ (by omega)]; exact h4 j hj
theorem kr_rem1 {g : ce_D} {h b n : Nat} {K : ce_V} (hr : ce_rK g h K) (hn : K 12 b - n ≠ 0) : ce_rK (ce_up g (h + 3) b (nI (K 12 b - n))) h (kv_rem K b n) := by
  obtain ⟨h1, h2, h3, h4⟩ := hr
  refine ⟨?_, ?_, ?_, ?_⟩
  · rw [ce_up_ne _ _ _ (by omega), kv_rem_0 (by decide)]; exact h1
  · intro j hj
    rw [ce_up_ne _ _ _ (by omega), kv_rem_0 (by decide)]; exact h2 j hj
  · intro j hj
    rw [kv_rem_0 (by decide)] at hj
    rw [ce_up_ne _ _ _ (by omega)]
    rw [h3 j hj]
    unfold ce_wi
    rw [kv_rem_12, kv_rem_0 (by decide)]
    by_cases e : j = b
    · rw [if_pos e, e, if_neg (by omega), if_neg hn]
    · rw [if_neg e]
  · intro j hj
    rw [ce_up_eq, kv_rem_12]
    unfold upd
    by_cases e : j = b
    · rw [if_pos e, if_pos e]
    · rw [if_neg e, if_neg e]; exact h4 j hj
theorem kr_rem2 {g : ce_D} {h b n : Nat} {K : ce_V} (hr : ce_rK g h K) (hn : K 12 b - n = 0) : ce_rK (ce_up (ce_up g (h + 3) b (nI (K 12 b - n))) (h + 2) b (-99999)) h (kv_rem K b n) := by
  obtain ⟨h1, h2, h3, h4⟩ := hr
  refine ⟨?_, ?_, ?_, ?_⟩
  · rw [ce_up_ne _ _ _ (by omega), ce_up_ne _ _ _ (by omega), kv_rem_0 (by decide)]; exact h1
  · intro j hj
    rw [ce_up_ne _ _ _ (by omega), ce_up_ne _ _ _ (by omega), kv_rem_0 (by decide)]; exact h2 j hj
  · intro j hj
    rw [kv_rem_0 (by decide)] at hj
    rw [ce_up_eq]
    unfold ce_wi upd
    rw [kv_rem_12, kv_rem_0 (by decide)]
    by_cases e : j = b
    · rw [if_pos e, if_pos e, if_pos hn]
    · rw [if_neg e, if_neg e, ce_up_ne _ _ _ (by omega)]; exact h3 j hj
  · intro j hj
    rw [ce_up_ne _ _ _ (by omega), ce_up_eq, kv_rem_12]
    unfold upd
    by_cases e : j = b
    · rw [if_pos e, if_pos e]
    · rw [if_neg e, if_neg e]; exact h4 j hj
theorem kv_rk_put {K : ce_V} (hk : kv_rk K) {b w n : Nat} (h : K 12 b + n ≤ K 11 b) (hw : w < 6) : kv_rk (kv_put K b w n) := by
  obtain ⟨k1, k2, k3, k4, k5⟩ := hk
  unfold kv_rk
  rw [kv_put_0 (by decide) (by decide)]
  refine ⟨k1, fun j => ?_, fun j hj => ?_, fun j hj => ?_, fun j hj => ?_⟩
  · rw [kv_put_12, kv_put_0 (by decide) (by decide)]
    have := k2 j
    split
    · rename_i e; subst e; omega
    · exact this
  · rw [kv_put_0 (by decide) (by decide)]; exact k3 j hj
  · rw [kv_put_12] at hj
    rw [kv_put_13]
    split
    · omega
    · rename_i e; rw [if_neg e] at hj; exact k4 j hj
  · rw [kv_put_0 (by decide) (by decide)]; exact k5 j hj
theorem kv_rk_rem {K : ce_V} (hk : kv_rk K) {b n : Nat} : kv_rk (kv_rem K b n) := by
  obtain ⟨k1, k2, k3, k4, k5⟩ := hk
  unfold kv_rk
  rw [kv_rem_0 (by decide)]
  refine ⟨k1, fun j => ?_, fun j hj => ?_, fun j hj => ?_, fun j hj => ?_⟩
  · rw [kv_rem_12, kv_rem_0 (by decide)]
    have := k2 j
    split
    · rename_i e; subst e; omega
    · exact this
  · rw [kv_rem_0 (by decide)]; exact k3 j hj
  · rw [kv_rem_12] at hj
    rw [kv_rem_0 (by decide)]
    refine k4 j ?_
    split at hj
    · rename_i e; rw [e]; omega
    · exact hj
  · rw [kv_rem_0 (by decide)]; exact k5 j hj
/-- lay and take: the steps, and what stays -/
theorem kv_lay_0 {w t : Nat} {K : ce_V} : kv_lay w t 0 K = K := by
  cases t with
  | zero => rfl
  | succ t => exact if_pos rfl
theorem kv_take_0 {w t : Nat} {K : ce_V} : kv_take w t 0 K = K := by
  cases t with
  | zero => rfl
  | succ t => exact if_pos rfl
theorem kv_rk_lay {w : Nat} (hw : w < 6) : ∀ {t left : Nat} {K : ce_V}, kv_rk K → kv_rk (kv_lay w t left K)
  | 0, _, _, hk => hk
  | t + 1, left, K, hk => by
    unfold kv_lay
    split
    · exact hk
    · split
      · exact hk
      · rename_i b hb
        have := hk.2.1 b
        exact kv_rk_lay hw (kv_rk_put hk (by omega) hw)
theorem kv_rk_take {w : Nat} : ∀ {t left : Nat} {K : ce_V}, kv_rk K → kv_rk (kv_take w t left K)
  | 0, _, _, hk => hk
  | t + 1, left, K, hk => by
    unfold kv_take
    split
    · exact hk
    · split
      · exact hk
      · exact kv_rk_take (kv_rk_rem hk)
theorem kv_lay_ne {w : Nat} {a j : Nat} (h1 : a ≠ 12) (h2 : a ≠ 13) : ∀ {t left : Nat} {K : ce_V}, kv_lay w t left K a j = K a j
  | 0, _, _ => rfl
  | t + 1, left, K => by
    unfold kv_lay
    split
    · rfl
    · generalize (kv_fill K w (K 0 2)).or (kv_eb K left (K 0 2)) = o
      cases o with
      | none => rfl
      | some b => exact (kv_lay_ne h1 h2).trans (kv_put_0 h1 h2)
theorem kv_take_ne {w : Nat} {a j : Nat} (h1 : a ≠ 12) : ∀ {t left : Nat} {K : ce_V}, kv_take w t left K a j = K a j
  | 0, _, _ => rfl
  | t + 1, left, K => by
    unfold kv_take
    split
    · rfl
    · generalize kv_tf K w (K 0 2) = o
      cases o with
      | none => rfl
      | some b => exact (kv_take_ne h1).trans (kv_rem_0 h1)
theorem kv_lay_some {K : ce_V} {w t left b : Nat} (h0 : 0 < left) (h : (kv_fill K w (K 0 2)).or (kv_eb K left (K 0 2)) = some b) : kv_lay w (t + 1) left K = kv_lay w t (left - min left (K 11 b - K 12 b)) (kv_put K b w (min left (K 11 b - K 12 b))) := by
  rw [kv_lay, if_neg (by omega), h]
theorem kv_lay_none {K : ce_V} {w t left : Nat} (h : (kv_fill K w (K 0 2)).or (kv_eb K left (K 0 2)) = none) : kv_lay w t left K = K := by
  cases t with
  | zero => rfl
  | succ t =>
    rw [kv_lay, h]
    split <;> rfl
theorem kv_take_some {K : ce_V} {w t left b : Nat} (h0 : 0 < left) (h : kv_tf K w (K 0 2) = some b) : kv_take w (t + 1) left K = kv_take w t (left - min left (K 12 b)) (kv_rem K b (min left (K 12 b))) := by
  rw [kv_take, if_neg (by omega), h]
theorem kv_take_none {K : ce_V} {w t left : Nat} (h : kv_tf K w (K 0 2) = none) : kv_take w t left K = K := by
  cases t with
  | zero => rfl
  | succ t =>
    rw [kv_take, h]
    split <;> rfl
end CEK
