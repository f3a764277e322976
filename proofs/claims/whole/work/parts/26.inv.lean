section CET
theorem kv_sum_c {K K1 : ce_V} {a w : Nat} (h : K1 a = K a) : kv_sum K1 a w = kv_sum K a w := by unfold kv_sum; rw [h]
theorem kv_bs_c {K K1 : ce_V} {w : Nat} (h : K1 12 = K 12) (h1 : K1 13 = K 13) : kv_bs K1 w = kv_bs K w := by unfold kv_bs; rw [h, h1]
theorem kv_sum_up {K K1 : ce_V} {a m w : Nat} (hm : m < 6) (hw : w < 6) (h : ∀ i, i ≠ m * 6 + w → K1 a i = K a i) : kv_sum K1 a w + K a (m * 6 + w) = kv_sum K a w + K1 a (m * 6 + w) ∧ ∀ v, v < 6 → v ≠ w → kv_sum K1 a v = kv_sum K a v :=
  ⟨ce_sum_up (f := fun m => K a (m * 6 + w)) (f1 := fun m => K1 a (m * 6 + w)) hm (fun j hj hne => h _ (by omega)), fun v hv hne => ce_sum_cong (fun j hj => h _ (by omega))⟩
theorem cl_enr {K : ce_V} {p : Nat} (h : kv_cl K) (hm : K 0 0 < 6) (hp : p ≤ 999) : kv_cl (kv_enr K p) := by
  have er : ∀ a, a ≠ 0 ∧ a ≠ 1 → kv_enr K p a = K a := fun a q => by unfold kv_enr; rw [kv_up_ne q.1, kv_up_ne q.2]
  have e00 : kv_enr K p 0 0 = K 0 0 + 1 := kv_up_eq
  have e01 : kv_enr K p 0 1 = K 0 1 := by unfold kv_enr; rw [kv_up_j (by decide), kv_up_ne (by decide)]
  have e02 : kv_enr K p 0 2 = K 0 2 := by unfold kv_enr; rw [kv_up_j (by decide), kv_up_ne (by decide)]
  have e1 : ∀ j, kv_enr K p 1 j = if j = K 0 0 then p else K 1 j := fun j => by unfold kv_enr; rw [kv_up_ne (by decide), kv_up_a]
  exact ⟨kv_rk_eq h.rk e02 (er 11 (by decide)) (er 12 (by decide)) (er 13 (by decide)),
    by rw [e00]; omega,
    by rw [e01]; exact h.wi,
    fun m => by rw [e1]; split; exact hp; exact h.po m,
    by rw [er 2 (by decide)]; exact h.pr,
    by rw [er 5 (by decide)]; exact h.st,
    by rw [er 7 (by decide)]; exact h.od,
    fun w hw => by rw [er 3 (by decide), er 4 (by decide), er 6 (by decide), kv_sum_c (er 8 (by decide)), kv_sum_c (er 9 (by decide)), kv_sum_c (er 10 (by decide))]; exact h.bo w hw,
    fun w hw => by rw [kv_bs_c (er 12 (by decide)) (er 13 (by decide)), kv_sum_c (er 9 (by decide))]; exact h.bi w hw,
    fun m w hw hm => by rw [e00] at hm; rw [e1, if_neg (by omega), er 7 (by decide), er 8 (by decide), er 9 (by decide), er 10 (by decide)]; exact h.zm m w hw (by omega),
    by rw [e01, er 2 (by decide), er 3 (by decide), er 5 (by decide), er 7 (by decide)]; exact h.zw,
    by rw [er 5 (by decide), er 8 (by decide)]; exact h.z8,
    by rw [er 5 (by decide), er 9 (by decide), er 10 (by decide)]; exact h.z9⟩
theorem cl_off {K : ce_V} {p n : Nat} (h : kv_cl K) (hm : K 0 1 < 6) (hp : p ≤ 99) (hn : n ≤ 60) : kv_cl (kv_off K p n) := by
  have er : ∀ a, a ≠ 0 ∧ a ≠ 2 ∧ a ≠ 3 ∧ a ≠ 4 → kv_off K p n a = K a := fun a q => by unfold kv_off; rw [kv_up_ne q.1, kv_up_ne q.2.2.2, kv_up_ne q.2.2.1, kv_up_ne q.2.1]
  have e01 : kv_off K p n 0 1 = K 0 1 + 1 := kv_up_eq
  have e00 : kv_off K p n 0 0 = K 0 0 := by unfold kv_off; rw [kv_up_j (by decide), kv_up_ne (by decide), kv_up_ne (by decide), kv_up_ne (by decide)]
  have e02 : kv_off K p n 0 2 = K 0 2 := by unfold kv_off; rw [kv_up_j (by decide), kv_up_ne (by decide), kv_up_ne (by decide), kv_up_ne (by decide)]
  have e2 : ∀ j, kv_off K p n 2 j = if j = K 0 1 then p else K 2 j := fun j => by unfold kv_off; rw [kv_up_ne (by decide), kv_up_ne (by decide), kv_up_ne (by decide), kv_up_a]
  have e3 : ∀ j, kv_off K p n 3 j = if j = K 0 1 then n else K 3 j := fun j => by unfold kv_off; rw [kv_up_ne (by decide), kv_up_ne (by decide), kv_up_a, kv_up_ne (by decide)]
  have e4 : ∀ j, kv_off K p n 4 j = if j = K 0 1 then n else K 4 j := fun j => by unfold kv_off; rw [kv_up_ne (by decide), kv_up_a, kv_up_ne (by decide), kv_up_ne (by decide)]
  exact ⟨kv_rk_eq h.rk e02 (er 11 (by decide)) (er 12 (by decide)) (er 13 (by decide)),
    by rw [e00]; exact h.me,
    by rw [e01]; omega,
    by rw [er 1 (by decide)]; exact h.po,
    fun w => by rw [e2]; split; exact hp; exact h.pr w,
    by rw [er 5 (by decide)]; exact h.st,
    by rw [er 7 (by decide)]; exact h.od,
    fun w hw => by
      rw [e3, e4, er 6 (by decide), kv_sum_c (er 8 (by decide)), kv_sum_c (er 9 (by decide)), kv_sum_c (er 10 (by decide))]
      have h1 := h.bo w hw
      by_cases e : w = K 0 1
      · have h2 := h.zw w hw (by omega)
        rw [if_pos e, if_pos e]
        omega
      · rw [if_neg e, if_neg e]; exact h1,
    fun w hw => by rw [kv_bs_c (er 12 (by decide)) (er 13 (by decide)), kv_sum_c (er 9 (by decide))]; exact h.bi w hw,
    by rw [e00, er 1 (by decide), er 7 (by decide), er 8 (by decide), er 9 (by decide), er 10 (by decide)]; exact h.zm,
    fun w hw hm => by rw [e01] at hm; rw [e2, e3, if_neg (by omega), if_neg (by omega), er 5 (by decide), er 7 (by decide)]; exact h.zw w hw (by omega),
    by rw [er 5 (by decide), er 8 (by decide)]; exact h.z8,
    by rw [er 5 (by decide), er 9 (by decide), er 10 (by decide)]; exact h.z9⟩
theorem cl_inst {K : ce_V} {n : Nat} (h : kv_cl K) (hm : K 0 2 < 8) (hn : 1 ≤ n ∧ n ≤ 24) : kv_cl (kv_inst K n) := by
  have er : ∀ a, a ≠ 0 ∧ a ≠ 11 → kv_inst K n a = K a := fun a q => funext fun j => kv_inst_0 (Or.inl q.1) q.2
  have e00 : kv_inst K n 0 0 = K 0 0 := kv_inst_0 (Or.inr (by decide)) (by decide)
  have e01 : kv_inst K n 0 1 = K 0 1 := kv_inst_0 (Or.inr (by decide)) (by decide)
  exact ⟨kv_rk_inst h.rk hm hn,
    by rw [e00]; exact h.me,
    by rw [e01]; exact h.wi,
    by rw [er 1 (by decide)]; exact h.po,
    by rw [er 2 (by decide)]; exact h.pr,
    by rw [er 5 (by decide)]; exact h.st,
    by rw [er 7 (by decide)]; exact h.od,
    fun w hw => by rw [er 3 (by decide), er 4 (by decide), er 6 (by decide), kv_sum_c (er 8 (by decide)), kv_sum_c (er 9 (by decide)), kv_sum_c (er 10 (by decide))]; exact h.bo w hw,
    fun w hw => by rw [kv_bs_c (er 12 (by decide)) (er 13 (by decide)), kv_sum_c (er 9 (by decide))]; exact h.bi w hw,
    by rw [e00, er 1 (by decide), er 7 (by decide), er 8 (by decide), er 9 (by decide), er 10 (by decide)]; exact h.zm,
    by rw [e01, er 2 (by decide), er 3 (by decide), er 5 (by decide), er 7 (by decide)]; exact h.zw,
    by rw [er 5 (by decide), er 8 (by decide)]; exact h.z8,
    by rw [er 5 (by decide), er 9 (by decide), er 10 (by decide)]; exact h.z9⟩
theorem cl_ord {K : ce_V} {m w n : Nat} (h : kv_cl K) (hm : m < K 0 0) (hw : w < K 0 1) (hn : n ≤ 60) : kv_cl (kv_ord K m w n) := by
  have er : ∀ a, a ≠ 7 → kv_ord K m w n a = K a := fun a q => kv_up_ne q
  have e00 : kv_ord K m w n 0 0 = K 0 0 := by rw [er 0 (by decide)]
  have e01 : kv_ord K m w n 0 1 = K 0 1 := by rw [er 0 (by decide)]
  have e02 : kv_ord K m w n 0 2 = K 0 2 := by rw [er 0 (by decide)]
  have e7 : ∀ j, kv_ord K m w n 7 j = if j = m * 6 + w then n else K 7 j := fun j => kv_up_a
  exact ⟨kv_rk_eq h.rk e02 (er 11 (by decide)) (er 12 (by decide)) (er 13 (by decide)),
    by rw [e00]; exact h.me,
    by rw [e01]; exact h.wi,
    by rw [er 1 (by decide)]; exact h.po,
    by rw [er 2 (by decide)]; exact h.pr,
    by rw [er 5 (by decide)]; exact h.st,
    fun i => by rw [e7]; split; exact hn; exact h.od i,
    fun w hw => by rw [er 3 (by decide), er 4 (by decide), er 6 (by decide), kv_sum_c (er 8 (by decide)), kv_sum_c (er 9 (by decide)), kv_sum_c (er 10 (by decide))]; exact h.bo w hw,
    fun w hw => by rw [kv_bs_c (er 12 (by decide)) (er 13 (by decide)), kv_sum_c (er 9 (by decide))]; exact h.bi w hw,
    fun j v hv hj => by
      have := h.wi
      rw [e00] at hj; rw [er 1 (by decide), e7, if_neg (by omega), er 8 (by decide), er 9 (by decide), er 10 (by decide)]; exact h.zm j v hv hj,
    fun v hv hj => by
      rw [e01] at hj; rw [er 2 (by decide), er 3 (by decide), er 5 (by decide)]
      have h1 := h.zw v hv hj
      exact ⟨h1.1, h1.2.1, h1.2.2.1, fun j hj => by rw [e7, if_neg (by omega)]; exact h1.2.2.2 j hj⟩,
    by rw [er 5 (by decide), er 8 (by decide)]; exact h.z8,
    by rw [er 5 (by decide), er 9 (by decide), er 10 (by decide)]; exact h.z9⟩
theorem cl_car {K : ce_V} {a b n : Nat} (h : kv_cl K) (ha : a < K 0 2) (hb : b < K 0 2) (hab : a ≠ b) (hn : 0 < n ∧ n ≤ K 12 a) (hbt : K 12 b = 0 ∨ K 13 b = K 13 a) (hm : K 12 b + n ≤ K 11 b) : kv_cl (kv_car K a b n) := by
  have er : ∀ i, i ≠ 12 ∧ i ≠ 13 → kv_car K a b n i = K i := fun i q => funext fun j => (kv_rem_0 q.1).trans (kv_put_0 q.1 q.2)
  have e00 : kv_car K a b n 0 0 = K 0 0 := by rw [er 0 (by decide)]
  have e01 : kv_car K a b n 0 1 = K 0 1 := by rw [er 0 (by decide)]
  have e02 : kv_car K a b n 0 2 = K 0 2 := by rw [er 0 (by decide)]
  exact ⟨kv_rk_car h.rk hm (by omega),
    by rw [e00]; exact h.me,
    by rw [e01]; exact h.wi,
    by rw [er 1 (by decide)]; exact h.po,
    by rw [er 2 (by decide)]; exact h.pr,
    by rw [er 5 (by decide)]; exact h.st,
    by rw [er 7 (by decide)]; exact h.od,
    fun w hw => by rw [er 3 (by decide), er 4 (by decide), er 6 (by decide), kv_sum_c (er 8 (by decide)), kv_sum_c (er 9 (by decide)), kv_sum_c (er 10 (by decide))]; exact h.bo w hw,
    fun w hw => by
      have h1 := h.rk.2.2.2.1 a (by omega)
      have h2 := h.rk.1
      obtain ⟨v, hv⟩ : ∃ v, K 13 a = v + 1 := ⟨K 13 a - 1, by omega⟩
      rw [kv_sum_c (er 9 (by decide)), ← h.bi w hw]
      unfold kv_car
      rw [kv_bs_rem (w := v) (by omega) (by rw [kv_put_13, if_neg hab]; exact hv) (by rw [kv_put_12, if_neg hab]; exact hn.2), hv, kv_bs_put (by omega) (by omega)]
      split <;> rename_i e
      · rw [if_pos (by omega)]; omega
      · rw [if_neg (by omega)]; omega,
    by rw [e00, er 1 (by decide), er 7 (by decide), er 8 (by decide), er 9 (by decide), er 10 (by decide)]; exact h.zm,
    by rw [e01, er 2 (by decide), er 3 (by decide), er 5 (by decide), er 7 (by decide)]; exact h.zw,
    by rw [er 5 (by decide), er 8 (by decide)]; exact h.z8,
    by rw [er 5 (by decide), er 9 (by decide), er 10 (by decide)]; exact h.z9⟩
end CET
