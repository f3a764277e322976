section CET
theorem kv_sum_c {K K1 : ce_V} {a w : Nat} (h : K1 a = K a) : kv_sum K1 a w = kv_sum K a w := by unfold kv_sum; rw [h]
theorem kv_bs_c {K K1 : ce_V} {w : Nat} (h : K1 12 = K 12) (h1 : K1 13 = K 13) : kv_bs K1 w = kv_bs K w := by unfold kv_bs; rw [h, h1]
theorem kv_sum_up {K K1 : ce_V} {a m w : Nat} (hm : m < 6) (hw : w < 6) (h : ∀ i, i ≠ m * 6 + w → K1 a i = K a i) : kv_sum K1 a w + K a (m * 6 + w) = kv_sum K a w + K1 a (m * 6 + w) ∧ ∀ v, v < 6 → v ≠ w → kv_sum K1 a v = kv_sum K a v :=
  ⟨ce_sum_up (f := fun m => K a (m * 6 + w)) (f1 := fun m => K1 a (m * 6 + w)) hm (fun j hj hne => h _ (by omega)), fun v hv hne => ce_sum_cong (fun j hj => h _ (by omega))⟩
theorem cl_enr {K : ce_V} {p : Nat} (h : kv_cl K) (hm : K 0 0 < 6) (hp : p ≤ 999) : kv_cl (kv_enr K p) := by
  have er : ∀ a, a ≠ 0 ∧ a ≠ 1 → kv_enr K p a = K a := fun a q => by unfold kv_enr; rw [kv_up_ne q.1, kv_up_ne q.2]
  have e00 : kv_enr K p 0 0 = K 0 0 + 1 := kv_up_eq
  have e01 : kv_enr K p 0 1 = K 0 1 := by unfold kv_enr; rw [kv_up_j (by decide), kv_up_ne (by decide)]
  have e02 : kv_enr K p 0 2 = K 0 2 := by unfold kv_enr; rw [kv_up_j (by decide), kv_up_ne (by decide)]
  have e1 : ∀ j, kv_enr K p 1 j = if j = K 0 0 then p else K 1 j := fun j => by unfold kv_enr; rw [kv_up_ne (by decide), kv_up_a]
  exact ⟨kv_rk_eq h.rk e02 (er 11 (by decide)) (er 12 (by decide)) (er 13 (by decide)),
    by rw [e00]; omega,
    by rw [e01]; exact h.wi,
    fun m => by rw [e1]; split; exact hp; exact h.po m,
    by rw [er 2 (by decide)]; exact h.pr,
    by rw [er 5 (by decide)]; exact h.st,
    by rw [er 7 (by decide)]; exact h.od,
    fun w hw => by rw [er 3 (by decide), er 4 (by decide), er 6 (by decide), kv_sum_c (er 8 (by decide)), kv_sum_c (er 9 (by decide)), kv_sum_c (er 10 (by decide))]; exact h.bo w hw,
    fun w hw => by rw [kv_bs_c (er 12 (by decide)) (er 13 (by decide)), kv_sum_c (er 9 (by decide))]; exact h.bi w hw,
    fun m w hw hm => by rw [e00] at hm; rw [e1, if_neg (by omega), er 7 (by decide), er 8 (by decide), er 9 (by decide), er 10 (by decide)]; exact h.zm m w hw (by omega),
    by rw [e01, er 2 (by decide), er 3 (by decide), er 5 (by decide), er 7 (by decide)]; exact h.zw,
    by rw [er 5 (by decide), er 8 (by decide)]; exact h.z8,
    by rw [er 5 (by decide), er 9 (by decide), er 10 (by decide)]; exact h.z9⟩
theorem cl_off {K : ce_V} {p n : Nat} (h : kv_cl K) (hm : K 0 1 < 6) (hp : p ≤ 99) (hn : n ≤ 60) : kv_cl (kv_off K p n) := by
  have er : ∀ a, a ≠ 0 ∧ a ≠ 2 ∧ a ≠ 3 ∧ a ≠ 4 → kv_off K p n a = K a := fun a q => by unfold kv_off; rw [kv_up_ne q.1, kv_up_ne q.2.2.2, kv_up_ne q.2.2.1, kv_up_ne q.2.1]
  have e01 : kv_off K p n 0 1 = K 0 1 + 1 := kv_up_eq
  have e00 : kv_off K p n 0 0 = K 0 0 := by unfold kv_off; rw [kv_up_j (by decide), kv_up_ne (by decide), kv_up_ne (by decide), kv_up_ne (by decide)]
  have e02 : kv_off K p n 0 2 = K 0 2 := by unfold kv_off; rw [kv_up_j (by decide), kv_up_ne (by decide), kv_up_ne (by decide), kv_up_ne (by decide)]
  have e2 : ∀ j, kv_off K p n 2 j = if j = K 0 1 then p else K 2 j := fun j => by unfold kv_off; rw [kv_up_ne (by decide), kv_up_ne (by decide), kv_up_ne (by decide), kv_up_a]
  have e3 : ∀ j, kv_off K p n 3 j = if j = K 0 1 then n else K 3 j := fun j => by unfold kv_off; rw [kv_up_ne (by decide), kv_up_ne (by decide), kv_up_a, kv_up_ne (by decide)]
  have e4 : ∀ j, kv_off K p n 4 j = if j = K 0 1 then n else K 4 j := fun j => by unfold kv_off; rw [kv_up_ne (by decide), kv_up_a, kv_up_ne (by decide), kv_up_ne (by decide)]
  exact ⟨kv_rk_eq h.rk e02 (er 11 (by decide)) (er 12 (by decide)) (er 13 (by decide)),
    by rw [e00]; exact h.me,
    by rw [e01]; omega,
    by rw [er 1 (by decide)]; exact h.po,
    fun w => by rw [e2]; split; exact hp; exact h.pr w,
    by rw [er 5 (by decide)]; exact h.st,
    by rw [er 7 (by decide)]; exact h.od,
    fun w hw => by
      rw [e3, e4, er 6 (by decide), kv_sum_c (er 8 (by decide)), kv_sum_c (er 9 (by decide)), kv_sum_c (er 10 (by decide))]
      have h1 := h.bo w hw
      by_cases e : w = K 0 1
      · have h2 := h.zw w hw (by omega)
        rw [if_pos e, if_pos e]
        omega
      · rw [if_neg e, if_neg e]; exact h1,
    fun w hw => by rw [kv_bs_c (er 12 (by decide)) (er 13 (by decide)), kv_sum_c (er 9 (by decide))]; exact h.bi w hw,
    by rw [e00, er 1 (by decide), er 7 (by decide), er 8 (by decide), er 9 (by decide), er 10 (by decide)]; exact h.zm,
    fun w hw hm => by rw [e01] at hm; rw [e2, e3, if_neg (by omega), if_neg (by omega), er 5 (by decide), er 7 (by decide)]; exact h.zw w hw (by omega),
    by rw [er 5 (by decide), er 8 (by decide)]; exact h.z8,
    by rw [er 5 (by decide), er 9 (by decide), er 10 (by decide)]; exact h.z9⟩
theorem cl_inst {K : ce_V} {n : Nat} (h : kv_cl K) (hm : K 0 2 < 8) (hn : 1 ≤ n ∧ n ≤ 24) : kv_cl (kv_inst K n) := by
  have er : ∀ a, a ≠ 0 ∧ a ≠ 11 → kv_inst K n a = K a := fun a q => funext fun j => kv_inst_0 (Or.inl q.1) q.2
  have e00 : kv_inst K n 0 0 = K 0 0 := kv_inst_0 (Or.inr (by decide)) (by decide)
  have e01 : kv_inst K n 0 1 = K 0 1 := kv_inst_0 (Or.inr (by decide)) (by decide)
  exact ⟨kv_rk_inst h.rk hm hn,
    by rw [e00]; exact h.me,
    by rw [e01]; exact h.wi,
    by rw [er 1 (by decide)]; exact h.po,
    by rw [er 2 (by decide)]; exact h.pr,
    by rw [er 5 (by decide)]; exact h.st,
    by rw [er 7 (by decide)]; exact h.od,
    fun w hw => by rw [er 3 (by decide), er 4 (by decide), er 6 (by decide), kv_sum_c (er 8 (by decide)), kv_sum_c (er 9 (by decide)), kv_sum_c (er 10 (by decide))]; exact h.bo w hw,
    fun w hw => by rw [kv_bs_c (er 12 (by decide)) (er 13 (by decide)), kv_sum_c (er 9 (by decide))]; exact h.bi w hw,
    by rw [e00, er 1 (by decide), er 7 (by decide), er 8 (by decide), er 9 (by decide), er 10 (by decide)]; exact h.zm,
    by rw [e01, er 2 (by decide), er 3 (by decide), er 5 (by decide), er 7 (by decide)]; exact h.zw,
    by rw [er 5 (by decide), er 8 (by decide)]; exact h.z8,
    by rw [er 5 (by decide), er 9 (by decide), er 10 (by decide)]; exact h.z9⟩
theorem cl_ord {K : ce_V} {m w n : Nat} (h : kv_cl K) (hm : m < K 0 0) (hw : w < K 0 1) (hn : n ≤ 60) : kv_cl (kv_ord K m w n) := by
  have er : ∀ a, a ≠ 7 → kv_ord K m w n a = K a := fun a q => kv_up_ne q
  have e00 : kv_ord K m w n 0 0 = K 0 0 := by rw [er 0 (by decide)]
  have e01 : kv_ord K m w n 0 1 = K 0 1 := by rw [er 0 (by decide)]
  have e02 : kv_ord K m w n 0 2 = K 0 2 := by rw [er 0 (by decide)]
  have e7 : ∀ j, kv_ord K m w n 7 j = if j = m * 6 + w then n else K 7 j := fun j => kv_up_a
  exact ⟨kv_rk_eq h.rk e02 (er 11 (by decide)) (er 12 (by decide)) (er 13 (by decide)),
    by rw [e00]; exact h.me,
    by rw [e01]; exact h.wi,
    by rw [er 1 (by decide)]; exact h.po,
    by rw [er 2 (by decide)]; exact h.pr,
    by rw [er 5 (by decide)]; exact h.st,
    fun i => by rw [e7]; split; exact hn; exact h.od i,
    fun w hw => by rw [er 3 (by decide), er 4 (by decide), er 6 (by decide), kv_sum_c (er 8 (by decide)), kv_sum_c (er 9 (by decide)), kv_sum_c (er 10 (by decide))]; exact h.bo w hw,
    fun w hw => by rw [kv_bs_c (er 12 (by decide)) (er 13 (by decide)), kv_sum_c (er 9 (by decide))]; exact h.bi w hw,
    fun j v hv hj => by
      have := h.wi
      rw [e00] at hj; rw [er 1 (by decide), e7, if_neg (by omega), er 8 (by decide), er 9 (by decide), er 10 (by decide)]; exact h.zm j v hv hj,
    fun v hv hj => by
      rw [e01] at hj; rw [er 2 (by decide), er 3 (by decide), er 5 (by decide)]
      have h1 := h.zw v hv hj
      exact ⟨h1.1, h1.2.1, h1.2.2.1, fun j hj => by rw [e7, if_neg (by omega)]; exact h1.2.2.2 j hj⟩,
    by rw [er 5 (by decide), er 8 (by decide)]; exact h.z8,
    by rw [er 5 (by decide), er 9 (by decide), er 10 (by decide)]; exact h.z9⟩
theorem cl_car {K : ce_V} {a b n : Nat} (h : kv_cl K) (ha : a < K 0 2) (hb : b < K 0 2) (hab : a ≠ b) (hn : 0 < n ∧ n ≤ K 12 a) (hbt : K 12 b = 0 ∨ K 13 b = K 13 a) (hm : K 12 b + n ≤ K 11 b) : kv_cl (kv_car K a b n) := by
  have er : ∀ i, i ≠ 12 ∧ i ≠ 13 → kv_car K a b n i = K i := fun i q => funext fun j => (kv_rem_0 q.1).trans (kv_put_0 q.1 q.2)
  have e00 : kv_car K a b n 0 0 = K 0 0 := by rw [er 0 (by decide)]
  have e01 : kv_car K a b n 0 1 = K 0 1 := by rw [er 0 (by decide)]
  have e02 : kv_car K a b n 0 2 = K 0 2 := by rw [er 0 (by decide)]
  exact ⟨kv_rk_car h.rk hm (by omega),
    by rw [e00]; exact h.me,
    by rw [e01]; exact h.wi,
    by rw [er 1 (by decide)]; exact h.po,
    by rw [er 2 (by decide)]; exact h.pr,
    by rw [er 5 (by decide)]; exact h.st,
    by rw [er 7 (by decide)]; exact h.od,
    fun w hw => by rw [er 3 (by decide), er 4 (by decide), er 6 (by decide), kv_sum_c (er 8 (by decide)), kv_sum_c (er 9 (by decide)), kv_sum_c (er 10 (by decide))]; exact h.bo w hw,
    fun w hw => by
      have h1 := h.rk.2.2.2.1 a (by omega)
      have h2 := h.rk.1
      obtain ⟨v, hv⟩ : ∃ v, K 13 a = v + 1 := ⟨K 13 a - 1, by omega⟩
      rw [kv_sum_c (er 9 (by decide)), ← h.bi w hw]
      unfold kv_car
      rw [kv_bs_rem (w := v) (by omega) (by rw [kv_put_13, if_neg hab]; exact hv) (by rw [kv_put_12, if_neg hab]; exact hn.2), hv, kv_bs_put (by omega) (by omega)]
      split <;> rename_i e
      · rw [if_pos (by omega)]; omega
      · rw [if_neg (by omega)]; omega,
    by rw [e00, er 1 (by decide), er 7 (by decide), er 8 (by decide), er 9 (by decide), er 10 (by decide)]; exact h.zm,
    by rw [e01, er 2 (by decide), er 3 (by decide), er 5 (by decide), er 7 (by decide)]; exact h.zw,
    by rw [er 5 (by decide), er 8 (by decide)]; exact h.z8,
    by rw [er 5 (by decide), er 9 (by decide), er 10 (by decide)]; exact h.z9⟩
theorem kv_st2 {K : ce_V} (h : kv_cl K) {m w : Nat} (hm : m < 6) (hw : w < 6) (h0 : 0 < K 9 (m * 6 + w)) : K 5 w = 2 := by
  by_cases e : K 5 w = 2
  · exact e
  · have := (h.z9 w hw e m hm).1
    omega
theorem cl_han {K : ce_V} {m o w n : Nat} (h : kv_cl K) (hm : m < K 0 0) (ho : o < K 0 0) (hw : w < K 0 1) (hmo : m ≠ o) (hn : 1 ≤ n ∧ n ≤ K 9 (m * 6 + w)) : kv_cl (kv_han K m o w n) := by
  have hM := h.me
  have hW := h.wi
  have er : ∀ a, a ≠ 9 → kv_han K m o w n a = K a := fun a q => by unfold kv_han; rw [kv_up_ne q, kv_up_ne q]
  have e00 : kv_han K m o w n 0 0 = K 0 0 := by rw [er 0 (by decide)]
  have e01 : kv_han K m o w n 0 1 = K 0 1 := by rw [er 0 (by decide)]
  have e02 : kv_han K m o w n 0 2 = K 0 2 := by rw [er 0 (by decide)]
  have e9 : ∀ j v, v < 6 → kv_han K m o w n 9 (j * 6 + v) = if v = w ∧ j = o then K 9 (o * 6 + w) + n else if v = w ∧ j = m then K 9 (m * 6 + w) - n else K 9 (j * 6 + v) := fun j v hv => by
    unfold kv_han
    rw [kv_up_a, kv_up_a]
    by_cases q : v = w ∧ j = o
    · rw [if_pos (by rw [q.1, q.2]), if_pos q]
    · rw [if_neg (by omega), if_neg q]
      by_cases q2 : v = w ∧ j = m
      · rw [if_pos (by rw [q2.1, q2.2]), if_pos q2]
      · rw [if_neg (by omega), if_neg q2]
  have h5 := kv_st2 h (m := m) (w := w) (by omega) (by omega) (by omega)
  have s1 := kv_sum_up (K := K) (K1 := kv_up K 9 (m * 6 + w) (K 9 (m * 6 + w) - n)) (a := 9) (m := m) (w := w) (by omega) (by omega) (fun i hi => kv_up_j hi)
  have s2 := kv_sum_up (K := kv_up K 9 (m * 6 + w) (K 9 (m * 6 + w) - n)) (K1 := kv_han K m o w n) (a := 9) (m := o) (w := w) (by omega) (by omega) (fun i hi => kv_up_j hi)
  rw [kv_up_eq] at s1
  rw [kv_up_j (show o * 6 + w ≠ m * 6 + w by omega), e9 o w (by omega), if_pos ⟨rfl, rfl⟩] at s2
  have s9 : ∀ v, v < 6 → kv_sum (kv_han K m o w n) 9 v = kv_sum K 9 v := fun v hv => by
    by_cases q : v = w
    · subst q; omega
    · rw [s2.2 v hv q, s1.2 v hv q]
  exact ⟨kv_rk_eq h.rk e02 (er 11 (by decide)) (er 12 (by decide)) (er 13 (by decide)),
    by rw [e00]; exact h.me,
    by rw [e01]; exact h.wi,
    by rw [er 1 (by decide)]; exact h.po,
    by rw [er 2 (by decide)]; exact h.pr,
    by rw [er 5 (by decide)]; exact h.st,
    by rw [er 7 (by decide)]; exact h.od,
    fun v hv => by rw [er 3 (by decide), er 4 (by decide), er 6 (by decide), kv_sum_c (er 8 (by decide)), s9 v hv, kv_sum_c (er 10 (by decide))]; exact h.bo v hv,
    fun v hv => by rw [kv_bs_c (er 12 (by decide)) (er 13 (by decide)), s9 v hv]; exact h.bi v hv,
    fun j v hv hj => by
      have h1 := h.zm j v hv (by rw [e00] at hj; exact hj)
      have h2 := h.wi
      rw [e00] at hj
      rw [er 1 (by decide), er 7 (by decide), er 8 (by decide), e9 j v hv, er 10 (by decide)]
      exact ⟨h1.1, h1.2.1, h1.2.2.1, by rw [if_neg (by omega), if_neg (by omega)]; exact h1.2.2.2.1, h1.2.2.2.2⟩,
    by rw [e01, er 2 (by decide), er 3 (by decide), er 5 (by decide), er 7 (by decide)]; exact h.zw,
    by rw [er 5 (by decide), er 8 (by decide)]; exact h.z8,
    fun v hv h6 j hj => by
      rw [er 5 (by decide)] at h6
      rw [e9 j v hv, er 10 (by decide), if_neg (by rintro ⟨q, _⟩; subst q; exact h6 h5), if_neg (by rintro ⟨q, _⟩; subst q; exact h6 h5)]
      exact h.z9 v hv h6 j hj⟩
theorem cl_dri {K : ce_V} {m w n : Nat} (h : kv_cl K) (hm : m < K 0 0) (hw : w < K 0 1) (hn : 1 ≤ n ∧ n ≤ K 9 (m * 6 + w)) : kv_cl (kv_dri K m w n) := by
  have hM := h.me
  have hW := h.wi
  have er : ∀ a, a ≠ 9 ∧ a ≠ 10 ∧ a ≠ 12 → kv_dri K m w n a = K a := fun a q => by unfold kv_dri; rw [kv_up_ne q.2.1, kv_up_ne q.1]; exact funext fun j => kv_take_ne q.2.2
  have e00 : kv_dri K m w n 0 0 = K 0 0 := by rw [er 0 (by decide)]
  have e01 : kv_dri K m w n 0 1 = K 0 1 := by rw [er 0 (by decide)]
  have e02 : kv_dri K m w n 0 2 = K 0 2 := by rw [er 0 (by decide)]
  have e12 : kv_dri K m w n 12 = kv_take w (K 0 2) n K 12 := by unfold kv_dri; rw [kv_up_ne (by decide), kv_up_ne (by decide)]
  have e9 : ∀ j v, v < 6 → kv_dri K m w n 9 (j * 6 + v) = if v = w ∧ j = m then K 9 (m * 6 + w) - n else K 9 (j * 6 + v) := fun j v hv => by
    unfold kv_dri
    rw [kv_up_ne (by decide), kv_up_a]
    by_cases q : v = w ∧ j = m
    · rw [if_pos (by rw [q.1, q.2]), if_pos q]
    · rw [if_neg (by omega), if_neg q, kv_take_ne (by decide)]
  have e10 : ∀ j v, v < 6 → kv_dri K m w n 10 (j * 6 + v) = if v = w ∧ j = m then K 10 (m * 6 + w) + n else K 10 (j * 6 + v) := fun j v hv => by
    unfold kv_dri
    rw [kv_up_a]
    by_cases q : v = w ∧ j = m
    · rw [if_pos (by rw [q.1, q.2]), if_pos q]
    · rw [if_neg (by omega), if_neg q, kv_up_ne (by decide), kv_take_ne (by decide)]
  have h5 := kv_st2 h (m := m) (w := w) (by omega) (by omega) (by omega)
  have s9 := kv_sum_up (K := K) (K1 := kv_dri K m w n) (a := 9) (m := m) (w := w) (by omega) (by omega) (fun i hi => by unfold kv_dri; rw [kv_up_ne (by decide), kv_up_j hi, kv_take_ne (by decide)])
  have s10 := kv_sum_up (K := K) (K1 := kv_dri K m w n) (a := 10) (m := m) (w := w) (by omega) (by omega) (fun i hi => by unfold kv_dri; rw [kv_up_j hi, kv_up_ne (by decide), kv_take_ne (by decide)])
  rw [e9 m w (by omega), if_pos ⟨rfl, rfl⟩] at s9
  rw [e10 m w (by omega), if_pos ⟨rfl, rfl⟩] at s10
  have hb := h.bi w (by omega)
  have hle : K 9 (m * 6 + w) ≤ kv_sum K 9 w := kv_s_le (f := fun m => K 9 (m * 6 + w)) (j := m) (n := 6) (by omega)
  have hbs : ∀ v, kv_bs (kv_dri K m w n) v = kv_bs K v - (if v = w then n else 0) := fun v => by
    rw [← kv_take_all h.rk (kv_nt_le K w) (show n ≤ kv_bs K w by omega) v]
    unfold kv_bs
    rw [e12, er 13 (by decide), show kv_take w (K 0 2) n K 13 = K 13 from funext fun j => kv_take_ne (by decide)]
  exact ⟨kv_rk_eq (kv_rk_take (w := w) (t := K 0 2) (left := n) h.rk) (by rw [e02, kv_take_ne (by decide)]) (by rw [er 11 (by decide)]; exact funext fun j => (kv_take_ne (by decide)).symm) e12 (by rw [er 13 (by decide)]; exact funext fun j => (kv_take_ne (by decide)).symm),
    by rw [e00]; exact h.me,
    by rw [e01]; exact h.wi,
    by rw [er 1 (by decide)]; exact h.po,
    by rw [er 2 (by decide)]; exact h.pr,
    by rw [er 5 (by decide)]; exact h.st,
    by rw [er 7 (by decide)]; exact h.od,
    fun v hv => by
      rw [er 3 (by decide), er 4 (by decide), er 6 (by decide), kv_sum_c (er 8 (by decide))]
      have h1 := h.bo v hv
      by_cases q : v = w
      · subst q; omega
      · rw [s9.2 v hv q, s10.2 v hv q]; exact h1,
    fun v hv => by
      rw [hbs v, h.bi v hv]
      by_cases q : v = w
      · subst q; rw [if_pos rfl]; omega
      · rw [if_neg q, s9.2 v hv q]; rfl,
    fun j v hv hj => by
      have h1 := h.zm j v hv (by rw [e00] at hj; exact hj)
      have h2 := h.wi
      rw [e00] at hj
      rw [er 1 (by decide), er 7 (by decide), er 8 (by decide), e9 j v hv, e10 j v hv]
      exact ⟨h1.1, h1.2.1, h1.2.2.1, by rw [if_neg (by omega)]; exact h1.2.2.2.1, by rw [if_neg (by omega)]; exact h1.2.2.2.2⟩,
    by rw [e01, er 2 (by decide), er 3 (by decide), er 5 (by decide), er 7 (by decide)]; exact h.zw,
    by rw [er 5 (by decide), er 8 (by decide)]; exact h.z8,
    fun v hv h6 j hj => by
      rw [er 5 (by decide)] at h6
      rw [e9 j v hv, e10 j v hv, if_neg (by rintro ⟨q, _⟩; subst q; exact h6 h5), if_neg (by rintro ⟨q, _⟩; subst q; exact h6 h5)]
      exact h.z9 v hv h6 j hj⟩
end CET
