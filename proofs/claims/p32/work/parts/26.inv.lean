section CET
theorem kv_sum_c {K K1 : ce_V} {a w : Nat} (h : K1 a = K a) : kv_sum K1 a w = kv_sum K a w := by unfold kv_sum; rw [h]
theorem kv_bs_c {K K1 : ce_V} {w : Nat} (h : K1 12 = K 12) (h1 : K1 13 = K 13) : kv_bs K1 w = kv_bs K w := by unfold kv_bs; rw [h, h1]
theorem kv_sum_up {K K1 : ce_V} {a m w : Nat} (hm : m < 6) (hw : w < 6) (h : ∀ i, i ≠ m * 6 + w → K1 a i = K a i) : kv_sum K1 a w + K a (m * 6 + w) = kv_sum K a w + K1 a (m * 6 + w) ∧ ∀ v, v < 6 → v ≠ w → kv_sum K1 a v = kv_sum K a v :=
  ⟨ce_sum_up (f := fun m => K a (m * 6 + w)) (f1 := fun m => K1 a (m * 6 + w)) hm (fun j hj hne => h _ (by omega)), fun v hv hne => ce_sum_cong (fun j hj => h _ (by omega))⟩
theorem cl_enr {K : ce_V} {p : Nat} (h : kv_cl K) (hm : K 0 0 < 6) (hp : p ≤ 999) : kv_cl (kv_enr K p) := by
  have er : ∀ a, a ≠ 0 ∧ a ≠ 1 → kv_enr K p a = K a := fun a q => by unfold kv_enr; rw [kv_up_ne q.1, kv_up_ne q.2]
  have e00 : kv_enr K p 0 0 = K 0 0 + 1 := kv_up_eq
  have e01 : kv_enr K p 0 1 = K 0 1 := by unfold kv_enr; rw [kv_up_j (by decide), kv_up_ne (by decide)]
  have e02 : kv_enr K p 0 2 = K 0 2 := by unfold kv_enr; rw [kv_up_j (by decide), kv_up_ne (by decide)]
  have e1 : ∀ j, kv_enr K p 1 j = if j = K 0 0 then p else K 1 j := fun j => by unfold kv_enr; rw [kv_up_ne (by decide), kv_up_a]
  exact ⟨kv_rk_eq h.rk e02 (er 11 (by decide)) (er 12 (by decide)) (er 13 (by decide)),
    by rw [e00]; omega,
    by rw [e01]; exact h.wi,
    fun m => by rw [e1]; split; exact hp; exact h.po m,
    by rw [er 2 (by decide)]; exact h.pr,
    by rw [er 5 (by decide)]; exact h.st,
    by rw [er 7 (by decide)]; exact h.od,
    fun w hw => by rw [er 3 (by decide), er 4 (by decide), er 6 (by decide), kv_sum_c (er 8 (by decide)), kv_sum_c (er 9 (by decide)), kv_sum_c (er 10 (by decide))]; exact h.bo w hw,
    fun w hw => by rw [kv_bs_c (er 12 (by decide)) (er 13 (by decide)), kv_sum_c (er 9 (by decide))]; exact h.bi w hw,
    fun m w hw hm => by rw [e00] at hm; rw [e1, if_neg (by omega), er 7 (by decide), er 8 (by decide), er 9 (by decide), er 10 (by decide)]; exact h.zm m w hw (by omega),
    by rw [e01, er 2 (by decide), er 3 (by decide), er 5 (by decide), er 7 (by decide)]; exact h.zw,
    by rw [er 5 (by decide), er 8 (by decide)]; exact h.z8,
    by rw [er 5 (by decide), er 9 (by decide), er 10 (by decide)]; exact h.z9⟩
theorem cl_off {K : ce_V} {p n : Nat} (h : kv_cl K) (hm : K 0 1 < 6) (hp : p ≤ 99) (hn : n ≤ 60) : kv_cl (kv_off K p n) := by
  have er : ∀ a, a ≠ 0 ∧ a ≠ 2 ∧ a ≠ 3 ∧ a ≠ 4 → kv_off K p n a = K a := fun a q => by unfold kv_off; rw [kv_up_ne q.1, kv_up_ne q.2.2.2, kv_up_ne q.2.2.1, kv_up_ne q.2.1]
  have e01 : kv_off K p n 0 1 = K 0 1 + 1 := kv_up_eq
  have e00 : kv_off K p n 0 0 = K 0 0 := by unfold kv_off; rw [kv_up_j (by decide), kv_up_ne (by decide), kv_up_ne (by decide), kv_up_ne (by decide)]
  have e02 : kv_off K p n 0 2 = K 0 2 := by unfold kv_off; rw [kv_up_j (by decide), kv_up_ne (by decide), kv_up_ne (by decide), kv_up_ne (by decide)]
  have e2 : ∀ j, kv_off K p n 2 j = if j = K 0 1 then p else K 2 j := fun j => by unfold kv_off; rw [kv_up_ne (by decide), kv_up_ne (by decide), kv_up_ne (by decide), kv_up_a]
  have e3 : ∀ j, kv_off K p n 3 j = if j = K 0 1 then n else K 3 j := fun j => by unfold kv_off; rw [kv_up_ne (by decide), kv_up_ne (by decide), kv_up_a, kv_up_ne (by decide)]
  have e4 : ∀ j, kv_off K p n 4 j = if j = K 0 1 then n else K 4 j := fun j => by unfold kv_off; rw [kv_up_ne (by decide), kv_up_a, kv_up_ne (by decide), kv_up_ne (by decide)]
  exact ⟨kv_rk_eq h.rk e02 (er 11 (by decide)) (er 12 (by decide)) (er 13 (by decide)),
    by rw [e00]; exact h.me,
    by rw [e01]; omega,
    by rw [er 1 (by decide)]; exact h.po,
    fun w => by rw [e2]; split; exact hp; exact h.pr w,
    by rw [er 5 (by decide)]; exact h.st,
    by rw [er 7 (by decide)]; exact h.od,
    fun w hw => by
      rw [e3, e4, er 6 (by decide), kv_sum_c (er 8 (by decide)), kv_sum_c (er 9 (by decide)), kv_sum_c (er 10 (by decide))]
      have h1 := h.bo w hw
      by_cases e : w = K 0 1
      · have h2 := h.zw w hw (by omega)
        rw [if_pos e, if_pos e]
        omega
      · rw [if_neg e, if_neg e]; exact h1,
    fun w hw => by rw [kv_bs_c (er 12 (by decide)) (er 13 (by decide)), kv_sum_c (er 9 (by decide))]; exact h.bi w hw,
    by rw [e00, er 1 (by decide), er 7 (by decide), er 8 (by decide), er 9 (by decide), er 10 (by decide)]; exact h.zm,
    fun w hw hm => by rw [e01] at hm; rw [e2, e3, if_neg (by omega), if_neg (by omega), er 5 (by decide), er 7 (by decide)]; exact h.zw w hw (by omega),
    by rw [er 5 (by decide), er 8 (by decide)]; exact h.z8,
    by rw [er 5 (by decide), er 9 (by decide), er 10 (by decide)]; exact h.z9⟩
theorem cl_inst {K : ce_V} {n : Nat} (h : kv_cl K) (hm : K 0 2 < 8) (hn : 1 ≤ n ∧ n ≤ 24) : kv_cl (kv_inst K n) := by
  have er : ∀ a, a ≠ 0 ∧ a ≠ 11 → kv_inst K n a = K a := fun a q => funext fun j => kv_inst_0 (Or.inl q.1) q.2
  have e00 : kv_inst K n 0 0 = K 0 0 := kv_inst_0 (Or.inr (by decide)) (by decide)
  have e01 : kv_inst K n 0 1 = K 0 1 := kv_inst_0 (Or.inr (by decide)) (by decide)
  exact ⟨kv_rk_inst h.rk hm hn,
    by rw [e00]; exact h.me,
    by rw [e01]; exact h.wi,
    by rw [er 1 (by decide)]; exact h.po,
    by rw [er 2 (by decide)]; exact h.pr,
    by rw [er 5 (by decide)]; exact h.st,
    by rw [er 7 (by decide)]; exact h.od,
    fun w hw => by rw [er 3 (by decide), er 4 (by decide), er 6 (by decide), kv_sum_c (er 8 (by decide)), kv_sum_c (er 9 (by decide)), kv_sum_c (er 10 (by decide))]; exact h.bo w hw,
    fun w hw => by rw [kv_bs_c (er 12 (by decide)) (er 13 (by decide)), kv_sum_c (er 9 (by decide))]; exact h.bi w hw,
    by rw [e00, er 1 (by decide), er 7 (by decide), er 8 (by decide), er 9 (by decide), er 10 (by decide)]; exact h.zm,
    by rw [e01, er 2 (by decide), er 3 (by decide), er 5 (by decide), er 7 (by decide)]; exact h.zw,
    by rw [er 5 (by decide), er 8 (by decide)]; exact h.z8,
    by rw [er 5 (by decide), er 9 (by decide), er 10 (by decide)]; exact h.z9⟩
theorem cl_ord {K : ce_V} {m w n : Nat} (h : kv_cl K) (hm : m < K 0 0) (hw : w < K 0 1) (hn : n ≤ 60) : kv_cl (kv_ord K m w n) := by
  have er : ∀ a, a ≠ 7 → kv_ord K m w n a = K a := fun a q => kv_up_ne q
  have e00 : kv_ord K m w n 0 0 = K 0 0 := by rw [er 0 (by decide)]
  have e01 : kv_ord K m w n 0 1 = K 0 1 := by rw [er 0 (by decide)]
  have e02 : kv_ord K m w n 0 2 = K 0 2 := by rw [er 0 (by decide)]
  have e7 : ∀ j, kv_ord K m w n 7 j = if j = m * 6 + w then n else K 7 j := fun j => kv_up_a
  exact ⟨kv_rk_eq h.rk e02 (er 11 (by decide)) (er 12 (by decide)) (er 13 (by decide)),
    by rw [e00]; exact h.me,
    by rw [e01]; exact h.wi,
    by rw [er 1 (by decide)]; exact h.po,
    by rw [er 2 (by decide)]; exact h.pr,
    by rw [er 5 (by decide)]; exact h.st,
    fun i => by rw [e7]; split; exact hn; exact h.od i,
    fun w hw => by rw [er 3 (by decide), er 4 (by decide), er 6 (by decide), kv_sum_c (er 8 (by decide)), kv_sum_c (er 9 (by decide)), kv_sum_c (er 10 (by decide))]; exact h.bo w hw,
    fun w hw => by rw [kv_bs_c (er 12 (by decide)) (er 13 (by decide)), kv_sum_c (er 9 (by decide))]; exact h.bi w hw,
    fun j v hv hj => by
      have := h.wi
      rw [e00] at hj; rw [er 1 (by decide), e7, if_neg (by omega), er 8 (by decide), er 9 (by decide), er 10 (by decide)]; exact h.zm j v hv hj,
    fun v hv hj => by
      rw [e01] at hj; rw [er 2 (by decide), er 3 (by decide), er 5 (by decide)]
      have h1 := h.zw v hv hj
      exact ⟨h1.1, h1.2.1, h1.2.2.1, fun j hj => by rw [e7, if_neg (by omega)]; exact h1.2.2.2 j hj⟩,
    by rw [er 5 (by decide), er 8 (by decide)]; exact h.z8,
    by rw [er 5 (by decide), er 9 (by decide), er 10 (by decide)]; exact h.z9⟩
theorem cl_car {K : ce_V} {a b n : Nat} (h : kv_cl K) (ha : a < K 0 2) (hb : b < K 0 2) (hab : a ≠ b) (hn : 0 < n ∧ n ≤ K 12 a) (hbt : K 12 b = 0 ∨ K 13 b = K 13 a) (hm : K 12 b + n ≤ K 11 b) : kv_cl (kv_car K a b n) := by
  have er : ∀ i, i ≠ 12 ∧ i ≠ 13 → kv_car K a b n i = K i := fun i q => funext fun j => (kv_rem_0 q.1).trans (kv_put_0 q.1 q.2)
  have e00 : kv_car K a b n 0 0 = K 0 0 := by rw [er 0 (by decide)]
  have e01 : kv_car K a b n 0 1 = K 0 1 := by rw [er 0 (by decide)]
  have e02 : kv_car K a b n 0 2 = K 0 2 := by rw [er 0 (by decide)]
  exact ⟨kv_rk_car h.rk hm (by omega),
    by rw [e00]; exact h.me,
    by rw [e01]; exact h.wi,
    by rw [er 1 (by decide)]; exact h.po,
    by rw [er 2 (by decide)]; exact h.pr,
    by rw [er 5 (by decide)]; exact h.st,
    by rw [er 7 (by decide)]; exact h.od,
    fun w hw => by rw [er 3 (by decide), er 4 (by decide), er 6 (by decide), kv_sum_c (er 8 (by decide)), kv_sum_c (er 9 (by decide)), kv_sum_c (er 10 (by decide))]; exact h.bo w hw,
    fun w hw => by
      have h1 := h.rk.2.2.2.1 a (by omega)
      have h2 := h.rk.1
      obtain ⟨v, hv⟩ : ∃ v, K 13 a = v + 1 := ⟨K 13 a - 1, by omega⟩
      rw [kv_sum_c (er 9 (by decide)), ← h.bi w hw]
      unfold kv_car
      rw [kv_bs_rem (w := v) (by omega) (by rw [kv_put_13, if_neg hab]; exact hv) (by rw [kv_put_12, if_neg hab]; exact hn.2), hv, kv_bs_put (by omega) (by omega)]
      split <;> rename_i e
      · rw [if_pos (by omega)]; omega
      · rw [if_neg (by omega)]; omega,
    by rw [e00, er 1 (by decide), er 7 (by decide), er 8 (by decide), er 9 (by decide), er 10 (by decide)]; exact h.zm,
    by rw [e01, er 2 (by decide), er 3 (by decide), er 5 (by decide), er 7 (by decide)]; exact h.zw,
    by rw [er 5 (by decide), er 8 (by decide)]; exact h.z8,
    by rw [er 5 (by decide), er 9 (by decide), er 10 (by decide)]; exact h.z9⟩
theorem kv_st2 {K : ce_V} (h : kv_cl K) {m w : Nat} (hm : m < 6) (hw : w < 6) (h0 : 0 < K 9 (m * 6 + w)) : K 5 w = 2 := by
  by_cases e : K 5 w = 2
  · exact e
  · have := (h.z9 w hw e m hm).1
    omega
theorem cl_han {K : ce_V} {m o w n : Nat} (h : kv_cl K) (hm : m < K 0 0) (ho : o < K 0 0) (hw : w < K 0 1) (hmo : m ≠ o) (hn : 1 ≤ n ∧ n ≤ K 9 (m * 6 + w)) : kv_cl (kv_han K m o w n) := by
  have hM := h.me
  have hW := h.wi
  have er : ∀ a, a ≠ 9 → kv_han K m o w n a = K a := fun a q => by unfold kv_han; rw [kv_up_ne q, kv_up_ne q]
  have e00 : kv_han K m o w n 0 0 = K 0 0 := by rw [er 0 (by decide)]
  have e01 : kv_han K m o w n 0 1 = K 0 1 := by rw [er 0 (by decide)]
  have e02 : kv_han K m o w n 0 2 = K 0 2 := by rw [er 0 (by decide)]
  have e9 : ∀ j v, v < 6 → kv_han K m o w n 9 (j * 6 + v) = if v = w ∧ j = o then K 9 (o * 6 + w) + n else if v = w ∧ j = m then K 9 (m * 6 + w) - n else K 9 (j * 6 + v) := fun j v hv => by
    unfold kv_han
    rw [kv_up_a, kv_up_a]
    by_cases q : v = w ∧ j = o
    · rw [if_pos (by rw [q.1, q.2]), if_pos q]
    · rw [if_neg (by omega), if_neg q]
      by_cases q2 : v = w ∧ j = m
      · rw [if_pos (by rw [q2.1, q2.2]), if_pos q2]
      · rw [if_neg (by omega), if_neg q2]
  have h5 := kv_st2 h (m := m) (w := w) (by omega) (by omega) (by omega)
  have s1 := kv_sum_up (K := K) (K1 := kv_up K 9 (m * 6 + w) (K 9 (m * 6 + w) - n)) (a := 9) (m := m) (w := w) (by omega) (by omega) (fun i hi => kv_up_j hi)
  have s2 := kv_sum_up (K := kv_up K 9 (m * 6 + w) (K 9 (m * 6 + w) - n)) (K1 := kv_han K m o w n) (a := 9) (m := o) (w := w) (by omega) (by omega) (fun i hi => kv_up_j hi)
  rw [kv_up_eq] at s1
  rw [kv_up_j (show o * 6 + w ≠ m * 6 + w by omega), e9 o w (by omega), if_pos ⟨rfl, rfl⟩] at s2
  have s9 : ∀ v, v < 6 → kv_sum (kv_han K m o w n) 9 v = kv_sum K 9 v := fun v hv => by
    by_cases q : v = w
    · subst q; omega
    · rw [s2.2 v hv q, s1.2 v hv q]
  exact ⟨kv_rk_eq h.rk e02 (er 11 (by decide)) (er 12 (by decide)) (er 13 (by decide)),
    by rw [e00]; exact h.me,
    by rw [e01]; exact h.wi,
    by rw [er 1 (by decide)]; exact h.po,
    by rw [er 2 (by decide)]; exact h.pr,
    by rw [er 5 (by decide)]; exact h.st,
    by rw [er 7 (by decide)]; exact h.od,
    fun v hv => by rw [er 3 (by decide), er 4 (by decide), er 6 (by decide), kv_sum_c (er 8 (by decide)), s9 v hv, kv_sum_c (er 10 (by decide))]; exact h.bo v hv,
    fun v hv => by rw [kv_bs_c (er 12 (by decide)) (er 13 (by decide)), s9 v hv]; exact h.bi v hv,
    fun j v hv hj => by
      have h1 := h.zm j v hv (by rw [e00] at hj; exact hj)
      have h2 := h.wi
      rw [e00] at hj
      rw [er 1 (by decide), er 7 (by decide), er 8 (by decide), e9 j v hv, er 10 (by decide)]
      exact ⟨h1.1, h1.2.1, h1.2.2.1, by rw [if_neg (by omega), if_neg (by omega)]; exact h1.2.2.2.1, h1.2.2.2.2⟩,
    by rw [e01, er 2 (by decide), er 3 (by decide), er 5 (by decide), er 7 (by decide)]; exact h.zw,
    by rw [er 5 (by decide), er 8 (by decide)]; exact h.z8,
    fun v hv h6 j hj => by
      rw [er 5 (by decide)] at h6
      rw [e9 j v hv, er 10 (by decide), if_neg (by rintro ⟨q, _⟩; subst q; exact h6 h5), if_neg (by rintro ⟨q, _⟩; subst q; exact h6 h5)]
      exact h.z9 v hv h6 j hj⟩
theorem cl_dri {K : ce_V} {m w n : Nat} (h : kv_cl K) (hm : m < K 0 0) (hw : w < K 0 1) (hn : 1 ≤ n ∧ n ≤ K 9 (m * 6 + w)) : kv_cl (kv_dri K m w n) := by
  have hM := h.me
  have hW := h.wi
  have er : ∀ a, a ≠ 9 ∧ a ≠ 10 ∧ a ≠ 12 → kv_dri K m w n a = K a := fun a q => by unfold kv_dri; rw [kv_up_ne q.2.1, kv_up_ne q.1]; exact funext fun j => kv_take_ne q.2.2
  have e00 : kv_dri K m w n 0 0 = K 0 0 := by rw [er 0 (by decide)]
  have e01 : kv_dri K m w n 0 1 = K 0 1 := by rw [er 0 (by decide)]
  have e02 : kv_dri K m w n 0 2 = K 0 2 := by rw [er 0 (by decide)]
  have e12 : kv_dri K m w n 12 = kv_take w (K 0 2) n K 12 := by unfold kv_dri; rw [kv_up_ne (by decide), kv_up_ne (by decide)]
  have e9 : ∀ j v, v < 6 → kv_dri K m w n 9 (j * 6 + v) = if v = w ∧ j = m then K 9 (m * 6 + w) - n else K 9 (j * 6 + v) := fun j v hv => by
    unfold kv_dri
    rw [kv_up_ne (by decide), kv_up_a]
    by_cases q : v = w ∧ j = m
    · rw [if_pos (by rw [q.1, q.2]), if_pos q]
    · rw [if_neg (by omega), if_neg q, kv_take_ne (by decide)]
  have e10 : ∀ j v, v < 6 → kv_dri K m w n 10 (j * 6 + v) = if v = w ∧ j = m then K 10 (m * 6 + w) + n else K 10 (j * 6 + v) := fun j v hv => by
    unfold kv_dri
    rw [kv_up_a]
    by_cases q : v = w ∧ j = m
    · rw [if_pos (by rw [q.1, q.2]), if_pos q]
    · rw [if_neg (by omega), if_neg q, kv_up_ne (by decide), kv_take_ne (by decide)]
  have h5 := kv_st2 h (m := m) (w := w) (by omega) (by omega) (by omega)
  have s9 := kv_sum_up (K := K) (K1 := kv_dri K m w n) (a := 9) (m := m) (w := w) (by omega) (by omega) (fun i hi => by unfold kv_dri; rw [kv_up_ne (by decide), kv_up_j hi, kv_take_ne (by decide)])
  have s10 := kv_sum_up (K := K) (K1 := kv_dri K m w n) (a := 10) (m := m) (w := w) (by omega) (by omega) (fun i hi => by unfold kv_dri; rw [kv_up_j hi, kv_up_ne (by decide), kv_take_ne (by decide)])
  rw [e9 m w (by omega), if_pos ⟨rfl, rfl⟩] at s9
  rw [e10 m w (by omega), if_pos ⟨rfl, rfl⟩] at s10
  have hb := h.bi w (by omega)
  have hle : K 9 (m * 6 + w) ≤ kv_sum K 9 w := kv_s_le (f := fun m => K 9 (m * 6 + w)) (j := m) (n := 6) (by omega)
  have hbs : ∀ v, kv_bs (kv_dri K m w n) v = kv_bs K v - (if v = w then n else 0) := fun v => by
    rw [← kv_take_all h.rk (kv_nt_le K w) (show n ≤ kv_bs K w by omega) v]
    unfold kv_bs
    rw [e12, er 13 (by decide), show kv_take w (K 0 2) n K 13 = K 13 from funext fun j => kv_take_ne (by decide)]
  exact ⟨kv_rk_eq (kv_rk_take (w := w) (t := K 0 2) (left := n) h.rk) (by rw [e02, kv_take_ne (by decide)]) (by rw [er 11 (by decide)]; exact funext fun j => (kv_take_ne (by decide)).symm) e12 (by rw [er 13 (by decide)]; exact funext fun j => (kv_take_ne (by decide)).symm),
    by rw [e00]; exact h.me,
    by rw [e01]; exact h.wi,
    by rw [er 1 (by decide)]; exact h.po,
    by rw [er 2 (by decide)]; exact h.pr,
    by rw [er 5 (by decide)]; exact h.st,
    by rw [er 7 (by decide)]; exact h.od,
    fun v hv => by
      rw [er 3 (by decide), er 4 (by decide), er 6 (by decide), kv_sum_c (er 8 (by decide))]
      have h1 := h.bo v hv
      by_cases q : v = w
      · subst q; omega
      · rw [s9.2 v hv q, s10.2 v hv q]; exact h1,
    fun v hv => by
      rw [hbs v, h.bi v hv]
      by_cases q : v = w
      · subst q; rw [if_pos rfl]; omega
      · rw [if_neg q, s9.2 v hv q]; rfl,
    fun j v hv hj => by
      have h1 := h.zm j v hv (by rw [e00] at hj; exact hj)
      have h2 := h.wi
      rw [e00] at hj
      rw [er 1 (by decide), er 7 (by decide), er 8 (by decide), e9 j v hv, e10 j v hv]
      exact ⟨h1.1, h1.2.1, h1.2.2.1, by rw [if_neg (by omega)]; exact h1.2.2.2.1, by rw [if_neg (by omega)]; exact h1.2.2.2.2⟩,
    by rw [e01, er 2 (by decide), er 3 (by decide), er 5 (by decide), er 7 (by decide)]; exact h.zw,
    by rw [er 5 (by decide), er 8 (by decide)]; exact h.z8,
    fun v hv h6 j hj => by
      rw [er 5 (by decide)] at h6
      rw [e9 j v hv, e10 j v hv, if_neg (by rintro ⟨q, _⟩; subst q; exact h6 h5), if_neg (by rintro ⟨q, _⟩; subst q; exact h6 h5)]
      exact h.z9 v hv h6 j hj⟩
theorem kv_room_take {K : ce_V} {w : Nat} (hk : kv_rk K) (h : 0 < kv_bs K w) : 1 ≤ ce_sum (kv_room (kv_take w (K 0 2) 1 K) w) (K 0 2) := by
  cases hc : kv_tf K w (K 0 2) with
  | none =>
    have := kv_tk_none hk hc
    omega
  | some b =>
    obtain ⟨hb, h1, h2⟩ := kv_tf_lt hc
    obtain ⟨t, ht⟩ : ∃ t, K 0 2 = t + 1 := ⟨K 0 2 - 1, by omega⟩
    have e : kv_take w (t + 1) 1 K = kv_rem K b 1 := by
      rw [kv_take_some (by omega) hc, show min 1 (K 12 b) = 1 by omega]
      exact kv_take_0
    have h3 := kv_s_le (f := kv_room (kv_rem K b 1) w) hb
    have h4 : kv_room (kv_rem K b 1) w b = K 11 b - (K 12 b - 1) := by
      unfold kv_room
      rw [kv_rem_12, kv_rem_0 (by decide), kv_rem_0 (by decide), if_pos rfl, if_pos (Or.inr h2)]
    have := hk.2.1 b
    rw [show kv_take w (K 0 2) 1 K = kv_rem K b 1 by rw [ht]; exact e]
    omega
theorem kv_room_c {K K1 : ce_V} (h1 : K1 11 = K 11) (h2 : K1 12 = K 12) (h3 : K1 13 = K 13) (w : Nat) : kv_room K1 w = kv_room K w := by
  funext b
  unfold kv_room
  rw [h1, h2, h3]
theorem cl_cor2 {K : ce_V} {m w : Nat} (h : kv_cl K) (hm : m < K 0 0) (hw : w < K 0 1) (h9 : 0 < K 9 (m * 6 + w)) : kv_cl ((kv_up (kv_crk K w) 9 (m * 6 + w) (K 9 (m * 6 + w) - 1))) := by
  have hM := h.me
  have hW := h.wi
  have h5 := kv_st2 h (m := m) (w := w) (by omega) (by omega) h9
  have hb := h.bi w (by omega)
  have hle : K 9 (m * 6 + w) ≤ kv_sum K 9 w := kv_s_le (f := fun m => K 9 (m * 6 + w)) (j := m) (n := 6) (by omega)
  have er : ∀ a, a ≠ 6 ∧ a ≠ 9 ∧ a ≠ 12 → (kv_up (kv_crk K w) 9 (m * 6 + w) (K 9 (m * 6 + w) - 1)) a = K a := fun a q => by rw [kv_up_ne q.2.1]; unfold kv_crk; rw [kv_up_ne q.1]; exact funext fun j => kv_take_ne q.2.2
  have e00 : (kv_up (kv_crk K w) 9 (m * 6 + w) (K 9 (m * 6 + w) - 1)) 0 0 = K 0 0 := by rw [er 0 (by decide)]
  have e01 : (kv_up (kv_crk K w) 9 (m * 6 + w) (K 9 (m * 6 + w) - 1)) 0 1 = K 0 1 := by rw [er 0 (by decide)]
  have e02 : (kv_up (kv_crk K w) 9 (m * 6 + w) (K 9 (m * 6 + w) - 1)) 0 2 = K 0 2 := by rw [er 0 (by decide)]
  have e12 : (kv_up (kv_crk K w) 9 (m * 6 + w) (K 9 (m * 6 + w) - 1)) 12 = kv_take w (K 0 2) 1 K 12 := by rw [kv_up_ne (by decide)]; unfold kv_crk; rw [kv_up_ne (by decide)]
  have e6 : ∀ v, (kv_up (kv_crk K w) 9 (m * 6 + w) (K 9 (m * 6 + w) - 1)) 6 v = if v = w then K 6 w + 1 else K 6 v := fun v => by
    rw [kv_up_ne (by decide)]
    unfold kv_crk
    rw [kv_up_a, kv_take_ne (by decide)]
  have e9 : ∀ j v, v < 6 → (kv_up (kv_crk K w) 9 (m * 6 + w) (K 9 (m * 6 + w) - 1)) 9 (j * 6 + v) = if v = w ∧ j = m then K 9 (m * 6 + w) - 1 else K 9 (j * 6 + v) := fun j v hv => by
    rw [kv_up_a]
    by_cases q : v = w ∧ j = m
    · rw [if_pos (by rw [q.1, q.2]), if_pos q]
    · rw [if_neg (by omega), if_neg q]
      unfold kv_crk
      rw [kv_up_ne (by decide), kv_take_ne (by decide)]
  have s9 := kv_sum_up (K := K) (K1 := (kv_up (kv_crk K w) 9 (m * 6 + w) (K 9 (m * 6 + w) - 1))) (a := 9) (m := m) (w := w) (by omega) (by omega) (fun i hi => by rw [kv_up_j hi]; unfold kv_crk; rw [kv_up_ne (by decide), kv_take_ne (by decide)])
  rw [e9 m w (by omega), if_pos ⟨rfl, rfl⟩] at s9
  have hbs : ∀ v, kv_bs (kv_up (kv_crk K w) 9 (m * 6 + w) (K 9 (m * 6 + w) - 1)) v = kv_bs K v - (if v = w then 1 else 0) := fun v => by
    rw [← kv_take_all h.rk (kv_nt_le K w) (show 1 ≤ kv_bs K w by omega) v]
    unfold kv_bs
    rw [e12, er 13 (by decide), show kv_take w (K 0 2) 1 K 13 = K 13 from funext fun j => kv_take_ne (by decide)]
  exact ⟨kv_rk_eq (kv_rk_take (w := w) (t := K 0 2) (left := 1) h.rk) (by rw [e02, kv_take_ne (by decide)]) (by rw [er 11 (by decide)]; exact funext fun j => (kv_take_ne (by decide)).symm) e12 (by rw [er 13 (by decide)]; exact funext fun j => (kv_take_ne (by decide)).symm),
    by rw [e00]; exact h.me,
    by rw [e01]; exact h.wi,
    by rw [er 1 (by decide)]; exact h.po,
    by rw [er 2 (by decide)]; exact h.pr,
    by rw [er 5 (by decide)]; exact h.st,
    by rw [er 7 (by decide)]; exact h.od,
    fun v hv => by
      rw [er 3 (by decide), er 4 (by decide), e6, kv_sum_c (er 8 (by decide)), kv_sum_c (er 10 (by decide))]
      have h1 := h.bo v hv
      by_cases q : v = w
      · subst q; rw [if_pos rfl]; omega
      · rw [s9.2 v hv q, if_neg q]; exact h1,
    fun v hv => by
      rw [hbs v, h.bi v hv]
      by_cases q : v = w
      · subst q; rw [if_pos rfl]; omega
      · rw [if_neg q, s9.2 v hv q]; rfl,
    fun j v hv hj => by
      have h1 := h.zm j v hv (by rw [e00] at hj; exact hj)
      have h2 := h.wi
      rw [e00] at hj
      rw [er 1 (by decide), er 7 (by decide), er 8 (by decide), e9 j v hv, er 10 (by decide)]
      exact ⟨h1.1, h1.2.1, h1.2.2.1, by rw [if_neg (by omega)]; exact h1.2.2.2.1, h1.2.2.2.2⟩,
    by rw [e01, er 2 (by decide), er 3 (by decide), er 5 (by decide), er 7 (by decide)]; exact h.zw,
    by rw [er 5 (by decide), er 8 (by decide)]; exact h.z8,
    fun v hv h6 j hj => by
      rw [er 5 (by decide)] at h6
      rw [e9 j v hv, er 10 (by decide), if_neg (by rintro ⟨q, _⟩; subst q; exact h6 h5)]
      exact h.z9 v hv h6 j hj⟩
theorem cl_cor1 {K : ce_V} {m w : Nat} (h : kv_cl K) (hm : m < K 0 0) (hw : w < K 0 1) (h9 : 0 < K 9 (m * 6 + w)) (h4 : 0 < K 4 w) : kv_cl (kv_cor1 K w) := by
  have hM := h.me
  have hW := h.wi
  have h5 := kv_st2 h (m := m) (w := w) (by omega) (by omega) h9
  have hb := h.bi w (by omega)
  have hle : K 9 (m * 6 + w) ≤ kv_sum K 9 w := kv_s_le (f := fun m => K 9 (m * 6 + w)) (j := m) (n := 6) (by omega)
  have er : ∀ a, a ≠ 4 ∧ a ≠ 6 ∧ a ≠ 12 ∧ a ≠ 13 → kv_cor1 K w a = K a := fun a q => by refine funext fun j => ?_; unfold kv_cor1; rw [kv_lay_ne q.2.2.1 q.2.2.2, kv_up_ne q.1]; unfold kv_crk; rw [kv_up_ne q.2.1, kv_take_ne q.2.2.1]
  have e00 : kv_cor1 K w 0 0 = K 0 0 := by rw [er 0 (by decide)]
  have e01 : kv_cor1 K w 0 1 = K 0 1 := by rw [er 0 (by decide)]
  have e02 : kv_cor1 K w 0 2 = K 0 2 := by rw [er 0 (by decide)]
  have e6 : ∀ v, kv_cor1 K w 6 v = if v = w then K 6 w + 1 else K 6 v := fun v => by
    unfold kv_cor1
    rw [kv_lay_ne (by decide) (by decide), kv_up_ne (by decide)]
    unfold kv_crk
    rw [kv_up_a, kv_take_ne (by decide)]
  have e4 : ∀ v, kv_cor1 K w 4 v = if v = w then K 4 w - 1 else K 4 v := fun v => by
    unfold kv_cor1
    rw [kv_lay_ne (by decide) (by decide), kv_up_a]
    unfold kv_crk
    rw [kv_up_ne (by decide), kv_take_ne (by decide)]
  have f0 : (kv_up (kv_crk K w) 4 w (K 4 w - 1)) 0 2 = K 0 2 := by unfold kv_crk; rw [kv_up_ne (by decide), kv_up_ne (by decide), kv_take_ne (by decide)]
  have f11 : (kv_up (kv_crk K w) 4 w (K 4 w - 1)) 11 = K 11 := by unfold kv_crk; rw [kv_up_ne (by decide), kv_up_ne (by decide)]; exact funext fun j => kv_take_ne (by decide)
  have f12 : (kv_up (kv_crk K w) 4 w (K 4 w - 1)) 12 = kv_take w (K 0 2) 1 K 12 := by unfold kv_crk; rw [kv_up_ne (by decide), kv_up_ne (by decide)]
  have f13 : (kv_up (kv_crk K w) 4 w (K 4 w - 1)) 13 = K 13 := by unfold kv_crk; rw [kv_up_ne (by decide), kv_up_ne (by decide)]; exact funext fun j => kv_take_ne (by decide)
  have t11 : kv_take w (K 0 2) 1 K 11 = K 11 := funext fun j => kv_take_ne (by decide)
  have t13 : kv_take w (K 0 2) 1 K 13 = K 13 := funext fun j => kv_take_ne (by decide)
  have hk2 : kv_rk (kv_up (kv_crk K w) 4 w (K 4 w - 1)) := kv_rk_eq (kv_rk_take (w := w) (t := K 0 2) (left := 1) h.rk) (by rw [f0, kv_take_ne (by decide)]) (by rw [f11, t11]) f12 (by rw [f13, t13])
  have hroom : 1 ≤ ce_sum (kv_room (kv_up (kv_crk K w) 4 w (K 4 w - 1)) w) ((kv_up (kv_crk K w) 4 w (K 4 w - 1)) 0 2) := by
    rw [f0, kv_room_c (K := kv_take w (K 0 2) 1 K) (by rw [f11, t11]) f12 (by rw [f13, t13])]
    exact kv_room_take h.rk (by omega)
  have hbs : ∀ v, kv_bs (kv_cor1 K w) v = kv_bs K v := fun v => by
    have q1 := kv_lay_all (w := w) (t := K 0 2) (left := 1) hk2 (by omega) (by have := kv_nr_le (kv_up (kv_crk K w) 4 w (K 4 w - 1)) w; rw [f0] at this; exact this) hroom v
    have q2 := kv_take_all (w := w) (t := K 0 2) (left := 1) h.rk (kv_nt_le K w) (by omega) v
    have q3 : kv_bs (kv_up (kv_crk K w) 4 w (K 4 w - 1)) v = kv_bs (kv_take w (K 0 2) 1 K) v := kv_bs_c f12 (by rw [f13, t13])
    unfold kv_cor1
    rw [q1, q3, q2]
    split
    · rename_i e; subst e; omega
    · omega
  exact ⟨kv_rk_lay (by omega) hk2,
    by rw [e00]; exact h.me,
    by rw [e01]; exact h.wi,
    by rw [er 1 (by decide)]; exact h.po,
    by rw [er 2 (by decide)]; exact h.pr,
    by rw [er 5 (by decide)]; exact h.st,
    by rw [er 7 (by decide)]; exact h.od,
    fun v hv => by
      rw [er 3 (by decide), e4, e6, kv_sum_c (er 8 (by decide)), kv_sum_c (er 9 (by decide)), kv_sum_c (er 10 (by decide))]
      have h1 := h.bo v hv
      by_cases q : v = w
      · subst q; rw [if_pos rfl, if_pos rfl]; omega
      · rw [if_neg q, if_neg q]; exact h1,
    fun v hv => by rw [hbs v, kv_sum_c (er 9 (by decide))]; exact h.bi v hv,
    by rw [e00, er 1 (by decide), er 7 (by decide), er 8 (by decide), er 9 (by decide), er 10 (by decide)]; exact h.zm,
    by rw [e01, er 2 (by decide), er 3 (by decide), er 5 (by decide), er 7 (by decide)]; exact h.zw,
    by rw [er 5 (by decide), er 8 (by decide)]; exact h.z8,
    by rw [er 5 (by decide), er 9 (by decide), er 10 (by decide)]; exact h.z9⟩
theorem cl_cor {K : ce_V} {m w : Nat} (h : kv_cl K) (hm : m < K 0 0) (hw : w < K 0 1) (h9 : 0 < K 9 (m * 6 + w)) : kv_cl (kv_cor K m w) := by
  unfold kv_cor
  split
  · exact cl_cor1 h hm hw h9 (by assumption)
  · exact cl_cor2 h hm hw h9
theorem kv_del_8b {w v j : Nat} (hw : w < 6) (hv : v < 6) : ∀ {n : Nat} {K : ce_V}, kv_del w n K 8 (j * 6 + v) = if v = w ∧ j < n then 0 else K 8 (j * 6 + v)
  | 0, K => by rw [if_neg (by omega)]; rfl
  | n + 1, K => by
    show kv_up (kv_up (kv_del w n K) 9 (n * 6 + w) _) 8 (n * 6 + w) 0 8 (j * 6 + v) = _
    rw [kv_up_a, kv_up_ne (by decide), kv_del_8b hw hv]
    by_cases e : v = w ∧ j = n
    · rw [if_pos (by rw [e.1, e.2]), if_pos (by omega)]
    · rw [if_neg (by omega)]
      by_cases e2 : v = w ∧ j < n
      · rw [if_pos e2, if_pos (by omega)]
      · rw [if_neg e2, if_neg (by omega)]
theorem kv_del_9b {w v j : Nat} (hw : w < 6) (hv : v < 6) : ∀ {n : Nat} {K : ce_V}, kv_del w n K 9 (j * 6 + v) = if v = w ∧ j < n then K 8 (j * 6 + w) else K 9 (j * 6 + v)
  | 0, K => by rw [if_neg (by omega)]; rfl
  | n + 1, K => by
    show kv_up (kv_up (kv_del w n K) 9 (n * 6 + w) _) 8 (n * 6 + w) 0 9 (j * 6 + v) = _
    rw [kv_up_ne (by decide), kv_up_a, kv_del_9b hw hv]
    by_cases e : v = w ∧ j = n
    · rw [if_pos (by rw [e.1, e.2]), if_pos (by omega), e.2]
    · rw [if_neg (by omega)]
      by_cases e2 : v = w ∧ j < n
      · rw [if_pos e2, if_pos (by omega)]
      · rw [if_neg e2, if_neg (by omega)]
theorem kv_end_7b {w v j : Nat} (hw : w < 6) (hv : v < 6) : ∀ {n : Nat} {K : ce_V}, kv_end w n K 7 (j * 6 + v) = if v = w ∧ j < n then 0 else K 7 (j * 6 + v)
  | 0, K => by rw [if_neg (by omega)]; rfl
  | n + 1, K => by
    show kv_up (kv_up (kv_end w n K) 1 n _) 7 (n * 6 + w) 0 7 (j * 6 + v) = _
    rw [kv_up_a, kv_up_ne (by decide), kv_end_7b hw hv]
    by_cases e : v = w ∧ j = n
    · rw [if_pos (by rw [e.1, e.2]), if_pos (by omega)]
    · rw [if_neg (by omega)]
      by_cases e2 : v = w ∧ j < n
      · rw [if_pos e2, if_pos (by omega)]
      · rw [if_neg e2, if_neg (by omega)]
theorem kv_end_7l {w i : Nat} : ∀ {n : Nat} {K : ce_V}, kv_end w n K 7 i ≤ K 7 i
  | 0, K => Nat.le_refl _
  | n + 1, K => by
    show kv_up (kv_up (kv_end w n K) 1 n _) 7 (n * 6 + w) 0 7 i ≤ _
    rw [kv_up_a, kv_up_ne (by decide)]
    split
    · omega
    · exact kv_end_7l
theorem kv_end_1b {w j : Nat} : ∀ {n : Nat} {K : ce_V}, kv_end w n K 1 j = if j < n then min 999 (K 1 j + K 8 (j * 6 + w)) else K 1 j
  | 0, K => rfl
  | n + 1, K => by
    show kv_up (kv_up (kv_end w n K) 1 n _) 7 (n * 6 + w) 0 1 j = _
    rw [kv_up_ne (by decide), kv_up_a, kv_end_1b]
    by_cases e : j = n
    · rw [if_pos e, if_pos (by omega), e]
    · rw [if_neg e]
      by_cases e2 : j < n
      · rw [if_pos e2, if_pos (by omega)]
      · rw [if_neg e2, if_neg (by omega)]
theorem kv_share_p {w : Nat} (hw : w < 6) : ∀ {t : Nat} {K : ce_V}, K 0 0 ≤ 6 → (∀ v, v ≠ w → kv_share w t K 4 v = K 4 v) ∧ (∀ j v, v < 6 → v ≠ w → kv_share w t K 8 (j * 6 + v) = K 8 (j * 6 + v)) ∧ (∀ j, K 0 0 ≤ j → kv_share w t K 8 (j * 6 + w) = K 8 (j * 6 + w)) ∧ kv_share w t K 4 w + kv_sum (kv_share w t K) 8 w = K 4 w + kv_sum K 8 w := by
  intro t
  induction t with
  | zero => intro K _; exact ⟨fun _ _ => rfl, fun _ _ _ _ => rfl, fun _ _ => rfl, rfl⟩
  | succ t ih =>
    intro K hm
    by_cases h0 : K 4 w = 0
    · rw [kv_share_z h0]; exact ⟨fun _ _ => rfl, fun _ _ _ _ => rfl, fun _ _ => rfl, rfl⟩
    · cases hp : kv_next K w (K 0 0) with
      | none => rw [kv_share_none hp]; exact ⟨fun _ _ => rfl, fun _ _ _ _ => rfl, fun _ _ => rfl, rfl⟩
      | some m =>
        have hlt := kv_next_lt hp
        rw [kv_share_some (by omega) hp]
        have g0 : kv_give1 K m w 0 0 = K 0 0 := by unfold kv_give1; rw [kv_up_ne (by decide), kv_up_ne (by decide)]
        have g4 : ∀ v, kv_give1 K m w 4 v = if v = w then K 4 w - 1 else K 4 v := fun v => by unfold kv_give1; rw [kv_up_a, kv_up_ne (by decide)]
        have g8 : ∀ i, kv_give1 K m w 8 i = if i = m * 6 + w then K 8 (m * 6 + w) + 1 else K 8 i := fun i => by unfold kv_give1; rw [kv_up_ne (by decide), kv_up_a]
        obtain ⟨i1, i2, i3, i4⟩ := ih (K := kv_give1 K m w) (by omega)
        have s8 := (kv_sum_up (K := K) (K1 := kv_give1 K m w) (a := 8) (m := m) (w := w) (by omega) hw (fun i hi => by rw [g8, if_neg hi])).1
        rw [g8, if_pos rfl] at s8
        rw [g4, if_pos rfl] at i4
        refine ⟨fun v hv => ?_, fun j v hv hne => ?_, fun j hj => ?_, ?_⟩
        · rw [i1 v hv, g4, if_neg hv]
        · rw [i2 j v hv hne, g8, if_neg (by omega)]
        · rw [i3 j (by omega), g8, if_neg (by omega)]
        · omega
theorem cl_bri {K : ce_V} {w : Nat} (h : kv_cl K) (hw : w < K 0 1) (h5 : K 5 w = 1) (hroom : kv_sum K 8 w ≤ ce_sum (kv_room K w) (K 0 2)) : kv_cl (kv_bri K w) := by
  have hM := h.me
  have hW := h.wi
  have er : ∀ a, a ≠ 5 ∧ a ≠ 8 ∧ a ≠ 9 ∧ a ≠ 12 ∧ a ≠ 13 → kv_bri K w a = K a := fun a q => by refine funext fun j => ?_; unfold kv_bri; rw [kv_up_ne q.1, kv_del_ne ⟨q.2.1, q.2.2.1⟩, kv_lay_ne q.2.2.2.1 q.2.2.2.2]
  have e00 : kv_bri K w 0 0 = K 0 0 := by rw [er 0 (by decide)]
  have e01 : kv_bri K w 0 1 = K 0 1 := by rw [er 0 (by decide)]
  have e02 : kv_bri K w 0 2 = K 0 2 := by rw [er 0 (by decide)]
  have e5 : ∀ v, kv_bri K w 5 v = if v = w then 2 else K 5 v := fun v => by
    unfold kv_bri
    rw [kv_up_a, kv_del_ne (by decide), kv_lay_ne (by decide) (by decide)]
  have e8 : ∀ j v, v < 6 → kv_bri K w 8 (j * 6 + v) = if v = w ∧ j < K 0 0 then 0 else K 8 (j * 6 + v) := fun j v hv => by
    unfold kv_bri
    rw [kv_up_ne (by decide), kv_del_8b (by omega) hv, kv_lay_ne (by decide) (by decide)]
  have e9 : ∀ j v, v < 6 → kv_bri K w 9 (j * 6 + v) = if v = w ∧ j < K 0 0 then K 8 (j * 6 + w) else K 9 (j * 6 + v) := fun j v hv => by
    unfold kv_bri
    rw [kv_up_ne (by decide), kv_del_9b (by omega) hv, kv_lay_ne (by decide) (by decide), kv_lay_ne (by decide) (by decide)]
  have e12 : kv_bri K w 12 = (kv_lay w (K 0 2) (kv_sum K 8 w) K) 12 := funext fun j => by unfold kv_bri; rw [kv_up_ne (by decide), kv_del_ne (by decide)]
  have e13 : kv_bri K w 13 = (kv_lay w (K 0 2) (kv_sum K 8 w) K) 13 := funext fun j => by unfold kv_bri; rw [kv_up_ne (by decide), kv_del_ne (by decide)]
  have hbs : ∀ v, kv_bs (kv_bri K w) v = kv_bs K v + (if v = w then kv_sum K 8 w else 0) := fun v => by
    rw [kv_bs_c e12 e13]
    exact kv_lay_all h.rk (by omega) (kv_nr_le K w) hroom v
  have s8 : kv_sum (kv_bri K w) 8 w = 0 := ce_sum_z (fun j hj => by
    rw [e8 j w (by omega)]
    split
    · rfl
    · exact (h.zm j w (by omega) (by omega)).2.2.1)
  have s8n : ∀ v, v < 6 → v ≠ w → kv_sum (kv_bri K w) 8 v = kv_sum K 8 v := fun v hv hne => ce_sum_cong (fun j hj => by rw [e8 j v hv, if_neg (by omega)])
  have s9 : kv_sum (kv_bri K w) 9 w = kv_sum K 8 w := ce_sum_cong (fun j hj => by
    rw [e9 j w (by omega)]
    split
    · rfl
    · rw [(h.z9 w (by omega) (by omega) j hj).1, (h.zm j w (by omega) (by omega)).2.2.1])
  have s9n : ∀ v, v < 6 → v ≠ w → kv_sum (kv_bri K w) 9 v = kv_sum K 9 v := fun v hv hne => ce_sum_cong (fun j hj => by rw [e9 j v hv, if_neg (by omega)])
  have s9z : kv_sum K 9 w = 0 := ce_sum_z (fun j hj => (h.z9 w (by omega) (by omega) j hj).1)
  exact ⟨kv_rk_eq (kv_rk_lay (w := w) (t := K 0 2) (left := kv_sum K 8 w) (by omega) h.rk) (by rw [e02, kv_lay_ne (by decide) (by decide)]) (by rw [er 11 (by decide)]; exact funext fun j => (kv_lay_ne (by decide) (by decide)).symm) e12 e13,
    by rw [e00]; exact h.me,
    by rw [e01]; exact h.wi,
    by rw [er 1 (by decide)]; exact h.po,
    by rw [er 2 (by decide)]; exact h.pr,
    fun v => by rw [e5]; split; exact Nat.le_refl 2; exact h.st v,
    by rw [er 7 (by decide)]; exact h.od,
    fun v hv => by
      rw [er 3 (by decide), er 4 (by decide), er 6 (by decide), kv_sum_c (er 10 (by decide))]
      have h1 := h.bo v hv
      by_cases q : v = w
      · subst q; omega
      · rw [s8n v hv q, s9n v hv q]; exact h1,
    fun v hv => by
      rw [hbs v, h.bi v hv]
      by_cases q : v = w
      · subst q; rw [if_pos rfl]; omega
      · rw [if_neg q, s9n v hv q]; rfl,
    fun j v hv hj => by
      rw [e00] at hj
      rw [er 1 (by decide), er 7 (by decide), e8 j v hv, e9 j v hv, er 10 (by decide), if_neg (by omega), if_neg (by omega)]
      exact h.zm j v hv hj,
    fun v hv hj => by
      rw [e01] at hj
      rw [er 2 (by decide), er 3 (by decide), er 7 (by decide), e5, if_neg (by omega)]
      exact h.zw v hv hj,
    fun v hv h6 j hj => by
      rw [e5] at h6
      rw [e8 j v hv]
      by_cases q : v = w
      · by_cases q2 : j < K 0 0
        · rw [if_pos ⟨q, q2⟩]
        · rw [if_neg (by omega)]; exact (h.zm j v hv (by omega)).2.2.1
      · rw [if_neg q] at h6; rw [if_neg (by omega)]; exact h.z8 v hv h6 j hj,
    fun v hv h6 j hj => by
      rw [e5] at h6
      by_cases q : v = w
      · rw [if_pos q] at h6; exact absurd rfl h6
      · rw [if_neg q] at h6; rw [e9 j v hv, er 10 (by decide), if_neg (by omega)]; exact h.z9 v hv h6 j hj⟩
theorem cl_all {K : ce_V} {w : Nat} (h : kv_cl K) (hw : w < K 0 1) (h5 : K 5 w = 0) : kv_cl (kv_all K w) := by
  have hM := h.me
  have hW := h.wi
  obtain ⟨p1, p2, p3, p4⟩ := kv_share_p (w := w) (by omega) (t := 60) (K := K) h.me
  have er : ∀ a, a ≠ 1 ∧ a ≠ 4 ∧ a ≠ 5 ∧ a ≠ 7 ∧ a ≠ 8 → kv_all K w a = K a := fun a q => by refine funext fun j => ?_; unfold kv_all; rw [kv_up_ne q.2.2.1, kv_end_ne ⟨q.1, q.2.2.2.1⟩, kv_share_ne ⟨q.2.1, q.2.2.2.2⟩]
  have e00 : kv_all K w 0 0 = K 0 0 := by rw [er 0 (by decide)]
  have e01 : kv_all K w 0 1 = K 0 1 := by rw [er 0 (by decide)]
  have e02 : kv_all K w 0 2 = K 0 2 := by rw [er 0 (by decide)]
  have e5 : ∀ v, kv_all K w 5 v = if v = w then 1 else K 5 v := fun v => by
    unfold kv_all
    rw [kv_up_a, kv_end_ne (by decide), kv_share_ne (by decide)]
  have e1 : ∀ j, kv_all K w 1 j = if j < K 0 0 then min 999 (K 1 j + kv_share w 60 K 8 (j * 6 + w)) else K 1 j := fun j => by
    unfold kv_all
    rw [kv_up_ne (by decide), kv_end_1b, kv_share_ne (by decide)]
  have e4 : ∀ v, kv_all K w 4 v = kv_share w 60 K 4 v := fun v => by
    unfold kv_all
    rw [kv_up_ne (by decide), kv_end_ne (by decide)]
  have e8 : kv_all K w 8 = kv_share w 60 K 8 := funext fun i => by
    unfold kv_all
    rw [kv_up_ne (by decide), kv_end_ne (by decide)]
  have e7 : ∀ j v, v < 6 → kv_all K w 7 (j * 6 + v) = if v = w ∧ j < K 0 0 then 0 else K 7 (j * 6 + v) := fun j v hv => by
    unfold kv_all
    rw [kv_up_ne (by decide), kv_end_7b (by omega) hv, kv_share_ne (by decide)]
  have s8n : ∀ v, v < 6 → v ≠ w → kv_sum (kv_all K w) 8 v = kv_sum K 8 v := fun v hv hne => ce_sum_cong (fun j hj => by rw [e8, p2 j v hv hne])
  have s8 : kv_sum (kv_all K w) 8 w = kv_sum (kv_share w 60 K) 8 w := kv_sum_c e8
  exact ⟨kv_rk_eq h.rk e02 (er 11 (by decide)) (er 12 (by decide)) (er 13 (by decide)),
    by rw [e00]; exact h.me,
    by rw [e01]; exact h.wi,
    fun m => by rw [e1]; split; exact Nat.min_le_left _ _; exact h.po m,
    by rw [er 2 (by decide)]; exact h.pr,
    fun v => by rw [e5]; split; decide; exact h.st v,
    fun i => by
      have h1 := h.od i
      have h2 := kv_end_7l (w := w) (i := i) (n := K 0 0) (K := kv_share w 60 K)
      unfold kv_all
      rw [kv_up_ne (by decide)]
      rw [kv_share_ne (by decide)] at h2
      omega,
    fun v hv => by
      rw [er 3 (by decide), e4, er 6 (by decide), kv_sum_c (er 9 (by decide)), kv_sum_c (er 10 (by decide))]
      have h1 := h.bo v hv
      by_cases q : v = w
      · subst q; rw [s8]; omega
      · rw [s8n v hv q, p1 v q]; exact h1,
    fun w hw => by rw [kv_bs_c (er 12 (by decide)) (er 13 (by decide)), kv_sum_c (er 9 (by decide))]; exact h.bi w hw,
    fun j v hv hj => by
      rw [e00] at hj
      have h1 := h.zm j v hv hj
      rw [e1, e7 j v hv, e8, er 9 (by decide), er 10 (by decide), if_neg (by omega), if_neg (by omega)]
      refine ⟨h1.1, h1.2.1, ?_, h1.2.2.2⟩
      by_cases q : v = w
      · subst q; rw [p3 j hj]; exact h1.2.2.1
      · rw [p2 j v hv q]; exact h1.2.2.1,
    fun v hv hj => by
      rw [e01] at hj
      have h1 := h.zw v hv hj
      rw [er 2 (by decide), er 3 (by decide), e5, if_neg (by omega)]
      exact ⟨h1.1, h1.2.1, h1.2.2.1, fun j hj => by rw [e7 j v hv, if_neg (by omega)]; exact h1.2.2.2 j hj⟩,
    fun v hv h6 j hj => by
      rw [e5] at h6
      by_cases q : v = w
      · rw [if_pos q] at h6; exact absurd rfl h6
      · rw [if_neg q] at h6; rw [e8, p2 j v hv q]; exact h.z8 v hv h6 j hj,
    fun v hv h6 j hj => by
      rw [e5] at h6
      rw [er 9 (by decide), er 10 (by decide)]
      refine h.z9 v hv ?_ j hj
      by_cases q : v = w
      · subst q; omega
      · rw [if_neg q] at h6; exact h6⟩
end CET
