section CEQ
/-! what a call that may go on says, in numbers -/
theorem kv_ord0 {K : ce_V} {m w n : Nat} (hm : m < 2 ^ 31) (hw : w < 2 ^ 31) (hn : n < 2 ^ 31) (h : kv_ordF K (nI m) (nI w) (nI n) = 0) : m < K 0 0 ∧ w < K 0 1 ∧ n ≤ 60 ∧ K 5 w = 0 := by
  unfold kv_ordF ce_n ce_in at h
  simp only [nI_toInt hm, nI_toInt hw, nI_toInt hn, Int.toNat_natCast] at h
  (repeat' split at h) <;> omega
theorem kv_all0 {K : ce_V} {w : Nat} (hw : w < 2 ^ 31) (h : kv_allF K (nI w) = 0) : w < K 0 1 ∧ K 5 w = 0 := by
  unfold kv_allF ce_n ce_in at h
  simp only [nI_toInt hw, Int.toNat_natCast] at h
  (repeat' split at h) <;> omega
theorem kv_del0 {K : ce_V} {w : Nat} (hw : w < 2 ^ 31) (h : kv_delF K (nI w) = 0) : w < K 0 1 ∧ K 5 w = 1 ∧ kv_sum K 8 w ≤ ce_sum (kv_room K w) (K 0 2) := by
  unfold kv_delF ce_n ce_in at h
  simp only [nI_toInt hw, Int.toNat_natCast] at h
  (repeat' split at h) <;> omega
theorem kv_dri0 {K : ce_V} {m w n : Nat} (hm : m < 2 ^ 31) (hw : w < 2 ^ 31) (hn : n < 2 ^ 31) (h : kv_driF K (nI m) (nI w) (nI n) = 0) : m < K 0 0 ∧ w < K 0 1 ∧ 1 ≤ n ∧ n ≤ 60 ∧ n ≤ K 9 (m * 6 + w) := by
  unfold kv_driF ce_n ce_in at h
  simp only [nI_toInt hm, nI_toInt hw, nI_toInt hn, Int.toNat_natCast] at h
  (repeat' split at h) <;> omega
theorem kv_gif0 {K : ce_V} {m o w n : Nat} (hm : m < 2 ^ 31) (ho : o < 2 ^ 31) (hw : w < 2 ^ 31) (hn : n < 2 ^ 31) (h : kv_gifF K (nI m) (nI o) (nI w) (nI n) = 0) : m < K 0 0 ∧ o < K 0 0 ∧ w < K 0 1 ∧ m ≠ o ∧ 1 ≤ n ∧ n ≤ 60 ∧ n ≤ K 9 (m * 6 + w) := by
  unfold kv_gifF ce_n ce_in at h
  simp only [nI_toInt hm, nI_toInt ho, nI_toInt hw, nI_toInt hn, Int.toNat_natCast] at h
  (repeat' split at h) <;> omega
theorem kv_cor0 {K : ce_V} {m w : Nat} (hm : m < 2 ^ 31) (hw : w < 2 ^ 31) (h : kv_corF K (nI m) (nI w) = 0) : m < K 0 0 ∧ w < K 0 1 ∧ 0 < K 9 (m * 6 + w) := by
  unfold kv_corF ce_n ce_in at h
  simp only [nI_toInt hm, nI_toInt hw, Int.toNat_natCast] at h
  (repeat' split at h) <;> omega
theorem kv_car0 {K : ce_V} {a b n : Nat} (hk : kv_rk K) (ha : a < 2 ^ 31) (hb : b < 2 ^ 31) (hn : n < 2 ^ 31) (h : kv_carF K (nI a) (nI b) (nI n) = 0) : a < K 0 2 ∧ b < K 0 2 ∧ a ≠ b ∧ 1 ≤ n ∧ n ≤ 24 ∧ n ≤ K 12 a ∧ (K 12 b = 0 ∨ K 13 b = K 13 a) ∧ K 12 b + n ≤ K 11 b := by
  have h1 := hk.2.1 b
  unfold kv_carF ce_n ce_in at h
  simp only [nI_toInt ha, nI_toInt hb, nI_toInt hn, Int.toNat_natCast] at h
  (repeat' split at h) <;> omega
theorem kv_F3 (K : ce_V) (x y z n : Int32) : kv_ordF K x y n ≤ 3 ∧ kv_allF K x ≤ 3 ∧ kv_delF K x ≤ 3 ∧ kv_driF K x y n ≤ 3 ∧ kv_gifF K x y z n ≤ 3 ∧ kv_corF K x y ≤ 3 ∧ kv_carF K x y n ≤ 3 := by
  refine ⟨?_, ?_, ?_, ?_, ?_, ?_, ?_⟩
  · unfold kv_ordF; (repeat' split) <;> decide
  · unfold kv_allF; (repeat' split) <;> decide
  · unfold kv_delF; (repeat' split) <;> decide
  · unfold kv_driF; (repeat' split) <;> decide
  · unfold kv_gifF; (repeat' split) <;> decide
  · unfold kv_corF; (repeat' split) <;> decide
  · unfold kv_carF; (repeat' split) <;> decide
/-- the rehearsal's object at r, its club behind it -/
def ce_LR (σ : ce_S) (r : Nat) : Prop := ce_kd σ r = 4 + 1 ∧ ce_gr σ r 0 = some (r + 1) ∧ ce_LC σ (r + 1)
/-- a club after a trial -/
def ks_ite {α : Type} (f : Nat) (x y : α) : α := if f = 0 then x else y
theorem ks_y {α : Type} {f : Nat} {x y : α} (h : f = 0) : x = ks_ite f x y := (if_pos h).symm
theorem ks_n {α : Type} {f : Nat} {x y : α} (h : f ≠ 0) : y = ks_ite f x y := (if_neg h).symm
end CEQ
