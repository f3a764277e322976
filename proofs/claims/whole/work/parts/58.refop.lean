theorem ce_CTm {ρ : Room} {Y : ce_Y} {av : List Value} {σ : ce_S} {g : ce_D} {Q Q' : Option Value → ce_S → ce_D → Prop} {X : String → ce_S → ce_D → Prop} (h : ce_CT ρ Y av σ g Q X) (hQ : ∀ v σ' g', Q v σ' g' → Q' v σ' g') : ce_CT ρ Y av σ g Q' X := by
  intro G A
  refine Jvm.Free.MetFree.mono (h G A) (fun _ _ h => h) (fun _ _ _ _ _ h => h) (fun a st o t _ hq => ?_)
  rcases hq with ⟨⟨v, σ', g', q1, q2, q3⟩, q4⟩ | hq
  · exact Or.inl ⟨⟨v, σ', g', q1, hQ _ _ _ q2, q3⟩, q4⟩
  · exact Or.inr hq
/-! what may be done, in numbers: both ways -/
theorem kv_ordI {K : ce_V} {m w n : Nat} (hm : m < 1000) (hw : w < 1000) (hn : n < 1000) : kv_ordF K (nI m) (nI w) (nI n) = 0 ↔ m < K 0 0 ∧ w < K 0 1 ∧ n ≤ 60 ∧ K 5 w = 0 := by
  refine ⟨kv_ord0 (by omega) (by omega) (by omega), fun h => ?_⟩
  unfold kv_ordF ce_n ce_in
  simp only [nI_toInt (show m < 2 ^ 31 by omega), nI_toInt (show w < 2 ^ 31 by omega), nI_toInt (show n < 2 ^ 31 by omega), Int.toNat_natCast]
  rw [if_pos (by omega), if_neg (by omega), if_pos h.2.2.2]
theorem kv_allI {K : ce_V} {w : Nat} (hw : w < 1000) : kv_allF K (nI w) = 0 ↔ w < K 0 1 ∧ K 5 w = 0 := by
  refine ⟨kv_all0 (by omega), fun h => ?_⟩
  unfold kv_allF ce_n ce_in
  simp only [nI_toInt (show w < 2 ^ 31 by omega), Int.toNat_natCast]
  rw [if_pos (by omega), if_pos h.2]
theorem kv_delI {K : ce_V} {w : Nat} (hw : w < 1000) : kv_delF K (nI w) = 0 ↔ w < K 0 1 ∧ K 5 w = 1 ∧ kv_sum K 8 w ≤ ce_sum (kv_room K w) (K 0 2) := by
  refine ⟨kv_del0 (by omega), fun h => ?_⟩
  unfold kv_delF ce_n ce_in
  simp only [nI_toInt (show w < 2 ^ 31 by omega), Int.toNat_natCast]
  rw [if_pos (by omega), if_pos h.2]
theorem kv_driI {K : ce_V} {m w n : Nat} (hm : m < 1000) (hw : w < 1000) (hn : n < 1000) : kv_driF K (nI m) (nI w) (nI n) = 0 ↔ m < K 0 0 ∧ w < K 0 1 ∧ 1 ≤ n ∧ n ≤ 60 ∧ n ≤ K 9 (m * 6 + w) := by
  refine ⟨kv_dri0 (by omega) (by omega) (by omega), fun h => ?_⟩
  unfold kv_driF ce_n ce_in
  simp only [nI_toInt (show m < 2 ^ 31 by omega), nI_toInt (show w < 2 ^ 31 by omega), nI_toInt (show n < 2 ^ 31 by omega), Int.toNat_natCast]
  rw [if_pos (by omega), if_neg (by omega), if_pos (by omega)]
theorem kv_gifI {K : ce_V} {m o w n : Nat} (hm : m < 1000) (ho : o < 1000) (hw : w < 1000) (hn : n < 1000) : kv_gifF K (nI m) (nI o) (nI w) (nI n) = 0 ↔ m < K 0 0 ∧ o < K 0 0 ∧ w < K 0 1 ∧ m ≠ o ∧ 1 ≤ n ∧ n ≤ 60 ∧ n ≤ K 9 (m * 6 + w) := by
  refine ⟨kv_gif0 (by omega) (by omega) (by omega) (by omega), fun h => ?_⟩
  unfold kv_gifF ce_n ce_in
  simp only [nI_toInt (show m < 2 ^ 31 by omega), nI_toInt (show o < 2 ^ 31 by omega), nI_toInt (show w < 2 ^ 31 by omega), nI_toInt (show n < 2 ^ 31 by omega), Int.toNat_natCast]
  rw [if_pos (by omega), if_neg (by omega), if_pos (by omega)]
theorem kv_corI {K : ce_V} {m w : Nat} (hm : m < 1000) (hw : w < 1000) : kv_corF K (nI m) (nI w) = 0 ↔ m < K 0 0 ∧ w < K 0 1 ∧ 0 < K 9 (m * 6 + w) := by
  refine ⟨kv_cor0 (by omega) (by omega), fun h => ?_⟩
  unfold kv_corF ce_n ce_in
  simp only [nI_toInt (show m < 2 ^ 31 by omega), nI_toInt (show w < 2 ^ 31 by omega), Int.toNat_natCast]
  rw [if_pos (by omega), if_pos h.2.2]
theorem kv_carI {K : ce_V} (hk : kv_rk K) {a b n : Nat} (ha : a < 1000) (hb : b < 1000) (hn : n < 1000) : kv_carF K (nI a) (nI b) (nI n) = 0 ↔ a < K 0 2 ∧ b < K 0 2 ∧ a ≠ b ∧ 1 ≤ n ∧ n ≤ 24 ∧ n ≤ K 12 a ∧ (K 12 b = 0 ∨ K 13 b = K 13 a) ∧ n ≤ K 11 b - K 12 b := by
  have h1 := hk.2.1 b
  refine ⟨fun h => by have := kv_car0 hk (by omega) (by omega) (by omega) h; omega, fun h => ?_⟩
  unfold kv_carF ce_n ce_in
  simp only [nI_toInt (show a < 2 ^ 31 by omega), nI_toInt (show b < 2 ^ 31 by omega), nI_toInt (show n < 2 ^ 31 by omega), Int.toNat_natCast]
  rw [if_pos (by omega), if_neg (by omega), if_pos ⟨by omega, h.2.2.2.2.2.2.1, by omega⟩]
/-! what is done to a row that holds a club -/
section CRG
variable {σ : ce_S} {g0 : ce_D} {d r : Nat} {K : ce_V} {O : Nat → Int32}
theorem kq_b (hk : kv_cl K) : kq K 0 0 ≤ 6 ∧ kq K 0 1 ≤ 6 ∧ kq K 0 2 ≤ 8 ∧ (∀ m, kq K 1 m ≤ 999) ∧ (∀ i, kq K 7 i ≤ 60) ∧ (∀ w, w < 6 → kq K 4 w ≤ 60) ∧ (∀ w, kq K 2 w ≤ 99) := by
  rw [kq_ne (a := 0) (by decide), kq_ne (a := 1) (by decide), kq_ne (a := 7) (by decide), kq_ne (a := 4) (by decide), kq_ne (a := 2) (by decide)]
  exact ⟨hk.me, hk.wi, hk.i7, hk.po, hk.od, fun w hw => (hk.le (m := 0) (by decide) hw).2.2.2.1, hk.pr⟩
theorem n_goAllocate (hD : ce_LM σ d) (hA : ce_LA σ 10 r 189) (hk : kv_cl K) (hr : cr_row (g0 r) (kq K) O) (hrd : r ≠ d + 8) (w : Nat) (hw : w < K 0 1) (h5 : K 5 w = 0) : ce_CT (ce_r 3) mX8_goAllocate [.ref d, .ref r, .int (nI w)] σ g0 (ce_rv σ (fun z9 g1 => z9 = nI (kv_sum (kv_share w 60 K) 8 w) ∧ cr_row (g1 r) (kq (kv_all K w)) (ko_all K w O) ∧ ∀ x, x ≠ d + 8 → x ≠ r → g1 x = g0 x)) ce_no := by
  have hW := hk.wi
  obtain ⟨b0, b1, b2, b3, b4, b5, b6⟩ := kq_b hk
  have h8 : ∀ m, K 8 (m * 6 + w) = 0 := fun m => by
    by_cases e : m < 6
    · exact hk.z8 w (by omega) (by omega) m e
    · exact (hk.zm m w (by omega) (by have := hk.me; omega)).2.2.1
  refine ce_CTm (m_X8_goAllocate d r (kq K) O hD hA hr hrd w (by omega) b0 b3 b4 (b5 w (by omega)) (b6 w) (fun m => by rw [kq_ne (a := 8) (by decide)]; exact h8 m)) ?_
  rintro v σ1 g1 ⟨z, rfl, rfl, hz, h1, h2⟩
  refine ⟨z, rfl, rfl, ?_, kq_all (by omega) hk.me h1, h2⟩
  have hp := (kv_share_p (w := w) (by omega) (t := 60) (K := K) hk.me).2.2.2
  have hs0 : kv_sum K 8 w = 0 := ce_sum_z (fun m hm => h8 m)
  rw [hz, kq_share, kq_ne (a := 4) (by decide), kq_ne (a := 4) (by decide)]
  exact congrArg nI (by omega)
theorem n_canDeliver (hA : ce_LA σ 10 r 189) (hk : kv_cl K) (hr : cr_row (g0 r) (kq K) O) (w : Nat) (hw : w < 6) : ce_CT (ce_r 3) mX8_canDeliver [.ref r, .int (nI w)] σ g0 (ce_pv (if K 5 w = 1 ∧ kv_sum K 8 w ≤ ce_sum (kv_room K w) (K 0 2) then 1 else 0) σ g0) ce_no := by
  obtain ⟨b0, b1, b2, b3, b4, b5, b6⟩ := kq_b hk
  have e0 : kq K 0 = K 0 := kq_ne (by decide)
  have es : ce_sum (fun m => kq K 8 (m * 6 + w)) (kq K 0 0) = kv_sum K 8 w := by rw [kq_ne (a := 8) (by decide), e0]; exact kq_sum8 hk (by omega) hw
  have er : kv_room (kq K) w = kv_room K w := kv_room_c (kq_ne (by decide)) (kq_ne (by decide)) (kq_ne (by decide)) w
  have hbo := hk.bo w hw
  have hrm := kv_room_le hk.rk w
  have h := m_X8_canDeliver r (kq K) O hA hr w b2 b0 hw (kq_rk hk.rk) (by rw [kq_ne (a := 5) (by decide)]; exact hk.st w) (by rw [es]; omega) (by rw [er, e0]; omega)
  rw [es, er, e0, kq_ne (a := 5) (by decide)] at h
  exact h
theorem n_goDeliver (hA : ce_LA σ 10 r 189) (hk : kv_cl K) (hr : cr_row (g0 r) (kq K) O) (w : Nat) (hw : w < 6) (h5 : K 5 w = 1) (hle : kv_sum K 8 w ≤ ce_sum (kv_room K w) (K 0 2)) : ce_CT (ce_r 4) mX8_goDeliver [.ref r, .int (nI w)] σ g0 (ce_rv σ (fun z9 g1 => z9 = nI (kv_sum K 8 w) ∧ cr_row (g1 r) (kq (kv_bri K w)) (ko_bri K w O) ∧ ∀ x, x ≠ r → g1 x = g0 x)) ce_no := by
  obtain ⟨b0, b1, b2, b3, b4, b5, b6⟩ := kq_b hk
  have e0 : kq K 0 = K 0 := kq_ne (by decide)
  have es : ce_sum (fun m => kq K 8 (m * 6 + w)) (kq K 0 0) = kv_sum K 8 w := by rw [kq_ne (a := 8) (by decide), e0]; exact kq_sum8 hk (by omega) hw
  have er : kv_room (kq K) w = kv_room K w := kv_room_c (kq_ne (by decide)) (kq_ne (by decide)) (kq_ne (by decide)) w
  have hbo := hk.bo w hw
  have h8 : ∀ i, i < 36 → K 8 i ≤ 60 := fun i hi => by
    have := hk.le (m := i / 6) (w := i % 6) (by omega) (by omega)
    rw [show i / 6 * 6 + i % 6 = i by omega] at this
    exact this.1
  have h8' : ∀ i, kq K 8 i ≤ 60 := fun i => by
    rw [kq_ne (a := 8) (by decide)]
    by_cases q : i < 36
    · exact h8 i q
    · have := (hk.zm (i / 6) (i % 6) (by omega) (by have := hk.me; omega)).2.2.1
      rw [show i / 6 * 6 + i % 6 = i by omega] at this
      omega
  refine ce_CTm (m_X8_goDeliver r (kq K) O hA w hw b0 (b6 w) h8' hr (kq_rk hk.rk) (by rw [es, er, e0]; exact hle) (by rw [es]; omega)) ?_
  rintro v σ1 g1 ⟨z, rfl, rfl, hz, h1, h2⟩
  exact ⟨z, rfl, rfl, by rw [hz, es], kq_bri hk hw h5 h1, h2⟩
theorem kq_bs (w : Nat) : kv_bs (kq K) w = kv_bs K w := kv_bs_c (kq_ne (by decide)) (kq_ne (by decide))
theorem n_goDrink (hA : ce_LA σ 10 r 189) (hk : kv_cl K) (hr : cr_row (g0 r) (kq K) O) (m w n : Nat) (hm : m < 6) (hw : w < 6) (hn : n ≤ 60) (h9 : n ≤ K 9 (m * 6 + w)) : ce_CT (ce_r 3) mX8_goDrink [.ref r, .int (nI m), .int (nI w), .int (nI n)] σ g0 (ce_uv σ (fun g1 => cr_row (g1 r) (kq (kv_dri K m w n)) O ∧ ∀ x, x ≠ r → g1 x = g0 x)) ce_no := by
  have hb := hk.bi w hw
  have hle : K 9 (m * 6 + w) ≤ kv_sum K 9 w := kv_s_le (f := fun m => K 9 (m * 6 + w)) (j := m) (n := 6) hm
  refine ce_CTm (m_X8_goDrink r (kq K) O hA hr m w n hm hw (kq_rk hk.rk) (by rw [kq_bs]; omega) (by omega) (by rw [kq_ne (a := 9) (by decide)]; exact h9)) ?_
  rintro v σ1 g1 ⟨rfl, rfl, h1, h2⟩
  exact ⟨rfl, rfl, kq_dri hk hm hw h1, h2⟩
theorem n_goGive (hA : ce_LA σ 10 r 189) (hr : cr_row (g0 r) (kq K) O) (m o w n : Nat) (hm : m < 6) (ho : o < 6) (hw : w < 6) (hmo : m ≠ o) (h9 : n ≤ K 9 (m * 6 + w)) : ce_CT (ce_r 2) mX8_goGive [.ref r, .int (nI m), .int (nI o), .int (nI w), .int (nI n)] σ g0 (ce_uv σ (fun g1 => cr_row (g1 r) (kq (kv_han K m o w n)) O ∧ ∀ x, x ≠ r → g1 x = g0 x)) ce_no := by
  refine ce_CTm (m_X8_goGive r (kq K) O hA hr m o w n hm ho hw hmo (by rw [kq_ne (a := 9) (by decide)]; exact h9)) ?_
  rintro v σ1 g1 ⟨rfl, rfl, h1, h2⟩
  rw [kq_han] at h1
  exact ⟨rfl, rfl, h1, h2⟩
theorem n_goCork (hA : ce_LA σ 10 r 189) (hk : kv_cl K) (hr : cr_row (g0 r) (kq K) O) (m w : Nat) (hm : m < 6) (hw : w < 6) (h9 : 0 < K 9 (m * 6 + w)) : ce_CT (ce_r 4) mX8_goCork [.ref r, .int (nI m), .int (nI w)] σ g0 (ce_rv σ (fun z9 g1 => z9 = nI (if 0 < K 4 w then 1 else 0) ∧ cr_row (g1 r) (kq (kv_cor K m w)) (ko_cor K m w O) ∧ ∀ x, x ≠ r → g1 x = g0 x)) ce_no := by
  have hb := hk.bi w hw
  have hle : K 9 (m * 6 + w) ≤ kv_sum K 9 w := kv_s_le (f := fun m => K 9 (m * 6 + w)) (j := m) (n := 6) hm
  obtain ⟨k1, k2, k3⟩ := kq_cor1 hk hw hm h9
  have e4 : kq K 4 w = K 4 w := by rw [kq_ne (by decide)]
  have eC : kv_up (kv_up (kv_take w 8 1 (kq K)) 6 w (kq K 6 w + 1)) 4 w (kq K 4 w - 1) = kq (kv_up (kv_crk K w) 4 w (K 4 w - 1)) := by rw [kq_crk hk, kq_up (by decide), e4]
  refine ce_CTm (m_X8_goCork r (kq K) O hA hr m w hm hw (kq_rk hk.rk) (by rw [kq_bs]; omega) (by rw [kq_ne (a := 9) (by decide)]; omega) (by rw [e4]; exact (hk.le (m := 0) (by decide) hw).2.2.2.1) (by rw [eC]; exact kq_rk k1) ?_) ?_
  · rw [eC, kq_ne (a := 0) (by decide), kv_room_c (K := kv_up (kv_crk K w) 4 w (K 4 w - 1)) (kq_ne (by decide)) (kq_ne (by decide)) (kq_ne (by decide))]
    exact k2
  · rintro v σ1 g1 ⟨z, rfl, rfl, hz, h1, h2⟩
    rw [kq_cor hk hw hm h9, kq_corO] at h1
    exact ⟨z, rfl, rfl, by rw [hz, e4], h1, h2⟩
theorem n_canMove (hA : ce_LA σ 10 r 189) (hk : kv_cl K) (hr : cr_row (g0 r) (kq K) O) (x y n : Nat) (hx : x < K 0 2) (hy : y < K 0 2) (hn : 1 ≤ n ∧ n ≤ 1000) : ce_CT (ce_r 3) mX8_canMove [.ref r, .int (nI x), .int (nI y), .int (nI n)] σ g0 (ce_pv (if n ≤ K 12 x ∧ (K 12 y = 0 ∨ K 13 y = K 13 x) ∧ n ≤ K 11 y - K 12 y then 1 else 0) σ g0) ce_no := by
  have hB := hk.i7
  have h := m_X8_canMove r (kq K) O hA hr x y n (by omega) (by omega) hn (kq_rk hk.rk)
  rw [kq_ne (a := 11) (by decide), kq_ne (a := 12) (by decide), kq_ne (a := 13) (by decide)] at h
  exact h
theorem n_goMove (hA : ce_LA σ 10 r 189) (hk : kv_cl K) (hr : cr_row (g0 r) (kq K) O) (x y n : Nat) (hx : x < K 0 2) (hy : y < K 0 2) (hxy : x ≠ y) (hn : 1 ≤ n ∧ n ≤ K 12 x) : ce_CT (ce_r 2) mX8_goMove [.ref r, .int (nI x), .int (nI y), .int (nI n)] σ g0 (ce_uv σ (fun g1 => cr_row (g1 r) (kq (kv_car K x y n)) O ∧ ∀ x, x ≠ r → g1 x = g0 x)) ce_no := by
  have hB := hk.i7
  refine ce_CTm (m_X8_goMove r (kq K) O hA hr x y n (by omega) (by omega) hxy (by rw [kq_ne (a := 12) (by decide)]; exact hn.2)) ?_
  rintro v σ1 g1 ⟨rfl, rfl, h1, h2⟩
  rw [kq_car hxy (hk.rk.2.2.2.1 x (by omega)).1] at h1
  exact ⟨rfl, rfl, h1, h2⟩
theorem n_owns (hA : ce_LA σ 10 r 189) (hk : kv_cl K) (hr : cr_row (g0 r) (kq K) O) (m w n : Nat) (hm9 : m ≤ 1000) (hw9 : w ≤ 1000) (hn9 : n ≤ 1000) : ce_CT (ce_r 2) mX8_owns [.ref r, .int (nI m), .int (nI w), .int (nI n)] σ g0 (ce_pv (if m < K 0 0 ∧ w < K 0 1 ∧ n ≤ K 9 (m * 6 + w) then 1 else 0) σ g0) ce_no := by
  obtain ⟨b0, b1, b2, b3, b4, b5, b6⟩ := kq_b hk
  have h9 : ∀ i, kq K 9 i ≤ 1000 := fun i => by
    rw [kq_ne (a := 9) (by decide)]
    by_cases q : i < 36
    · have := hk.le (m := i / 6) (w := i % 6) (by omega) (by omega)
      rw [show i / 6 * 6 + i % 6 = i by omega] at this
      omega
    · have := (hk.zm (i / 6) (i % 6) (by omega) (by have := hk.me; omega)).2.2.2.1
      rw [show i / 6 * 6 + i % 6 = i by omega] at this
      omega
  have h := m_X8_owns r (kq K) O hA hr m w n hm9 hw9 hn9 b0 b1 h9
  rw [kq_ne (a := 0) (by decide), kq_ne (a := 9) (by decide)] at h
  exact h
end CRG
/-! the reference's object and what it holds -/
def ce_rM (g : ce_D) (d : Nat) (S : ks_S) : Prop :=
  (sl S ≤ 120 ∧ g d 2 = nI (sl S) ∧ ∀ i, i < sl S → g (d + 1) i = nI (sT S i)) ∧
  cr_row (g (d + 3)) (kq (sK S)) (sO S) ∧
  (sn S ≤ 14 ∧ g d 9 = nI (sn S) ∧ ∀ i, i < sn S → cr_row (fun j => g (d + 5) (189 * i + j)) (kq (sKH S i)) (sOH S i)) ∧
  (∀ s, s < 2 → g (d + 7) s = if sF S s = true then 1 else 0) ∧ ∀ s, s < 2 → sF S s = true → cr_row (fun j => g (d + 6) (189 * s + j)) (kq (sKS S s)) (sOS S s)
/-- what doesn't matter changed -/
theorem rM_kp {g g1 : ce_D} {d : Nat} {S : ks_S} (h : ce_rM g d S) (h2 : g1 d 2 = g d 2) (h9 : g1 d 9 = g d 9) (e1 : g1 (d + 1) = g (d + 1)) (e3 : g1 (d + 3) = g (d + 3)) (e5 : g1 (d + 5) = g (d + 5)) (e6 : g1 (d + 6) = g (d + 6)) (e7 : g1 (d + 7) = g (d + 7)) : ce_rM g1 d S := by
  unfold ce_rM
  rw [h2, h9, e1, e3, e5, e6, e7]
  exact h
theorem rM_ref {g : ce_D} {d f : Nat} {S : ks_S} (h : ce_rM g d S) : ce_rM (ce_up g d 0 (nI f)) d S := rM_kp h (ce_up_j (by decide)) (ce_up_j (by decide)) (ce_up_ne _ _ _ (by omega)) (ce_up_ne _ _ _ (by omega)) (ce_up_ne _ _ _ (by omega)) (ce_up_ne _ _ _ (by omega)) (ce_up_ne _ _ _ (by omega))
/-- the club's row became another -/
theorem rM_row {g g1 : ce_D} {d : Nat} {S : ks_S} {K : ce_V} {O : Nat → Int32} (h : ce_rM g d S) (hr : cr_row (g1 (d + 3)) (kq K) O) (f : ∀ x, x ≠ d + 8 → x ≠ d + 3 → g1 x = g x) : ce_rM g1 d ((K, O), S.2) := by
  obtain ⟨h1, h2, h3, h4, h5⟩ := h
  rw [← f d (by omega) (by omega)] at h1 h3
  rw [← f (d + 1) (by omega) (by omega)] at h1
  rw [← f (d + 5) (by omega) (by omega)] at h3
  rw [← f (d + 7) (by omega) (by omega)] at h4
  rw [← f (d + 6) (by omega) (by omega)] at h5
  exact ⟨h1, hr, h3, h4, h5⟩
