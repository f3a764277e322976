section CES
/-! sums over members and bins -/
theorem ce_sum_up {f f1 : Nat → Nat} : ∀ {n m : Nat}, m < n → (∀ j, j < n → j ≠ m → f1 j = f j) → ce_sum f1 n + f m = ce_sum f n + f1 m
  | 0, m, hm, _ => by omega
  | n + 1, m, hm, h => by
    rw [ce_sum, ce_sum]
    by_cases e : m = n
    · subst e
      rw [ce_sum_cong (f := f1) (F := f) (n := m) (fun j hj => h j (by omega) (by omega))]
      omega
    · have ih := ce_sum_up (f := f) (f1 := f1) (n := n) (m := m) (by omega) (fun j hj hne => h j (by omega) hne)
      have := h n (by omega) (fun e2 => e e2.symm)
      omega
theorem ce_sum_z {f : Nat → Nat} : ∀ {n : Nat}, (∀ j, j < n → f j = 0) → ce_sum f n = 0
  | 0, _ => rfl
  | n + 1, h => by rw [ce_sum, ce_sum_z (fun j hj => h j (by omega)), h n (by omega)]
theorem ce_sum_zero {f : Nat → Nat} {n j : Nat} (h : ce_sum f n = 0) (hj : j < n) : f j = 0 := by
  have := kv_s_le (f := f) hj
  omega
/-- a sum that ends earlier -/
theorem ce_sum_end {f : Nat → Nat} : ∀ {n k : Nat}, k ≤ n → (∀ j, k ≤ j → j < n → f j = 0) → ce_sum f n = ce_sum f k
  | 0, k, h, _ => by rw [show k = 0 by omega]
  | n + 1, k, h, hz => by
    by_cases e : k = n + 1
    · rw [e]
    · rw [ce_sum, hz n (by omega) (by omega), ce_sum_end (n := n) (k := k) (by omega) (fun j h1 h2 => hz j h1 (by omega))]
      omega
/-- which bins still have room for w; which have bottles of it -/
def kv_nr (K : ce_V) (w : Nat) : Nat := ce_sum (fun b => if kv_room K w b = 0 then 0 else 1) (K 0 2)
def kv_bw (K : ce_V) (w b : Nat) : Nat := if K 13 b = w + 1 then K 12 b else 0
def kv_nt (K : ce_V) (w : Nat) : Nat := ce_sum (fun b => if kv_bw K w b = 0 then 0 else 1) (K 0 2)
theorem kv_bs_eq (K : ce_V) (w : Nat) : kv_bs K w = ce_sum (kv_bw K w) 8 := rfl
theorem ce_sum_01 {f : Nat → Nat} (h : ∀ j, f j ≤ 1) : ∀ n, ce_sum f n ≤ n
  | 0 => Nat.le_refl _
  | n + 1 => by
    have := ce_sum_01 h n
    have := h n
    rw [ce_sum]
    omega
theorem kv_nr_le (K : ce_V) (w : Nat) : kv_nr K w ≤ K 0 2 := ce_sum_01 (fun j => by split <;> omega) _
theorem kv_nt_le (K : ce_V) (w : Nat) : kv_nt K w ≤ K 0 2 := ce_sum_01 (fun j => by split <;> omega) _
/-- a bin is chosen, and it takes the wine -/
theorem kv_ch {K : ce_V} {w q b : Nat} (h : (kv_fill K w (K 0 2)).or (kv_eb K q (K 0 2)) = some b) : b < K 0 2 ∧ (K 12 b = 0 ∨ (K 13 b = w + 1 ∧ K 12 b < K 11 b)) := by
  cases hp : kv_fill K w (K 0 2) with
  | some c =>
    rw [hp] at h
    cases h
    have := kv_fill_lt hp
    exact ⟨this.1, Or.inr this.2.2⟩
  | none =>
    rw [hp] at h
    have := kv_eb_lt (show kv_eb K q (K 0 2) = some b from h)
    exact ⟨this.1, Or.inl this.2⟩
theorem kv_ch_none {K : ce_V} {w q : Nat} (hk : kv_rk K) (h : (kv_fill K w (K 0 2)).or (kv_eb K q (K 0 2)) = none) : ce_sum (kv_room K w) (K 0 2) = 0 := by
  cases hp : kv_fill K w (K 0 2) with
  | some c => rw [hp] at h; cases h
  | none =>
    rw [hp] at h
    refine ce_sum_z (fun b hb => ?_)
    have h1 := kv_fill_none hp b hb
    have h2 := kv_eb_none (show kv_eb K q (K 0 2) = none from h) b hb
    have h3 := hk.2.1 b
    unfold kv_room
    split
    · omega
    · rfl
/-- bottles come into a bin that takes them -/
theorem kv_room_put {K : ce_V} {w b n : Nat} (hb : K 12 b = 0 ∨ K 13 b = w + 1) : (∀ j, j ≠ b → kv_room (kv_put K b w n) w j = kv_room K w j) ∧ kv_room K w b = K 11 b - K 12 b ∧ kv_room (kv_put K b w n) w b = K 11 b - (K 12 b + n) := by
  refine ⟨fun j hj => ?_, ?_, ?_⟩
  · unfold kv_room
    rw [kv_put_12, kv_put_13, kv_put_0 (by decide) (by decide), if_neg hj, if_neg hj]
  · unfold kv_room
    rw [if_pos hb]
  · unfold kv_room
    rw [kv_put_12, kv_put_13, kv_put_0 (by decide) (by decide), if_pos rfl, if_pos rfl, if_pos (Or.inr rfl)]
theorem kv_bs_put {K : ce_V} {w b n : Nat} (h8 : b < 8) (hb : K 12 b = 0 ∨ K 13 b = w + 1) (v : Nat) : kv_bs (kv_put K b w n) v = kv_bs K v + (if v = w then n else 0) := by
  have h := ce_sum_up (f := kv_bw K v) (f1 := kv_bw (kv_put K b w n) v) (n := 8) (m := b) h8 (fun j _ hj => by
    unfold kv_bw
    rw [kv_put_12, kv_put_13, if_neg hj, if_neg hj])
  have h1 : kv_bw (kv_put K b w n) v b = if v = w then K 12 b + n else 0 := by
    unfold kv_bw
    rw [kv_put_12, kv_put_13, if_pos rfl, if_pos rfl]
    by_cases e : v = w
    · rw [if_pos (by omega), if_pos e]
    · rw [if_neg (by omega), if_neg e]
  have h2 : kv_bw K v b = if v = w then K 12 b else 0 := by
    unfold kv_bw
    by_cases e : v = w
    · rw [if_pos e]
      split
      · rfl
      · omega
    · rw [if_neg e]
      split
      · omega
      · rfl
  rw [kv_bs_eq, kv_bs_eq]
  rw [h1, h2] at h
  by_cases e : v = w
  · rw [if_pos e, if_pos e] at h; rw [if_pos e]; omega
  · rw [if_neg e, if_neg e] at h; rw [if_neg e]; omega
/-- all are laid, when there is room -/
theorem kv_lay_all {w : Nat} : ∀ {t left : Nat} {K : ce_V}, kv_rk K → w < 6 → kv_nr K w ≤ t → left ≤ ce_sum (kv_room K w) (K 0 2) → ∀ v, kv_bs (kv_lay w t left K) v = kv_bs K v + (if v = w then left else 0) := by
  intro t
  induction t with
  | zero =>
    intro left K hk hw ht hl v
    have h0 : ce_sum (kv_room K w) (K 0 2) = 0 := ce_sum_z (fun b hb => by
      have := ce_sum_zero (show kv_nr K w = 0 by omega) hb
      split at this
      · assumption
      · omega)
    show kv_bs K v = _
    split <;> omega
  | succ t ih =>
    intro left K hk hw ht hl v
    by_cases h0 : left = 0
    · subst h0
      rw [kv_lay_0]
      split <;> rfl
    · cases hc : (kv_fill K w (K 0 2)).or (kv_eb K left (K 0 2)) with
      | none =>
        have := kv_ch_none hk hc
        omega
      | some b =>
        rw [kv_lay_some (by omega) hc]
        obtain ⟨hb, hb1⟩ := kv_ch hc
        have hb2 : K 12 b = 0 ∨ K 13 b = w + 1 := by omega
        have hk1 := hk.2.1 b
        have hk2 := hk.2.2.2.2 b hb
        have hk0 := hk.1
        obtain ⟨r1, r2, r3⟩ := kv_room_put (n := min left (K 11 b - K 12 b)) hb2
        have hs := ce_sum_up (f := kv_room K w) (f1 := kv_room (kv_put K b w (min left (K 11 b - K 12 b))) w) hb (fun j _ hj => r1 j hj)
        have hn := ce_sum_up (f := fun b => if kv_room K w b = 0 then 0 else 1) (f1 := fun j => if kv_room (kv_put K b w (min left (K 11 b - K 12 b))) w j = 0 then 0 else 1) hb (fun j _ hj => by rw [r1 j hj])
        have hbs := kv_bs_put (n := min left (K 11 b - K 12 b)) (show b < 8 by omega) hb2 v
        have hrk := kv_rk_put (b := b) (n := min left (K 11 b - K 12 b)) hk (by omega) hw
        have h02 : kv_put K b w (min left (K 11 b - K 12 b)) 0 2 = K 0 2 := kv_put_0 (by decide) (by decide)
        unfold kv_nr at ih ht
        by_cases e : left ≤ K 11 b - K 12 b
        · rw [show left - min left (K 11 b - K 12 b) = 0 by omega, kv_lay_0, hbs, show min left (K 11 b - K 12 b) = left by omega]
        · have h3 := ih (left := left - min left (K 11 b - K 12 b)) hrk hw (by
            rw [h02]
            rw [if_neg (show ¬ kv_room K w b = 0 by omega), if_pos (show kv_room (kv_put K b w (min left (K 11 b - K 12 b))) w b = 0 by omega)] at hn
            omega) (by rw [h02]; omega) v
          rw [h3, hbs]
          split <;> omega
/-- the number of turns doesn't matter -/
theorem kv_lay_t {w : Nat} : ∀ {t s left : Nat} {K : ce_V}, kv_rk K → w < 6 → kv_nr K w ≤ t → kv_nr K w ≤ s → kv_lay w t left K = kv_lay w s left K := by
  intro t
  induction t with
  | zero =>
    intro s left K hk hw ht hs
    have h0 : ∀ b, b < K 0 2 → kv_room K w b = 0 := fun b hb => by
      have := ce_sum_zero (show kv_nr K w = 0 by omega) hb
      split at this
      · assumption
      · omega
    cases hc : (kv_fill K w (K 0 2)).or (kv_eb K left (K 0 2)) with
    | none => rw [kv_lay_none hc, kv_lay_none hc]
    | some b =>
      obtain ⟨hb, hb1⟩ := kv_ch hc
      have h1 := h0 b hb
      have hk2 := hk.2.2.2.2 b hb
      unfold kv_room at h1
      split at h1 <;> omega
  | succ t ih =>
    intro s left K hk hw ht hs
    by_cases h0 : left = 0
    · subst h0
      rw [kv_lay_0, kv_lay_0]
    · cases hc : (kv_fill K w (K 0 2)).or (kv_eb K left (K 0 2)) with
      | none => rw [kv_lay_none hc, kv_lay_none hc]
      | some b =>
        obtain ⟨hb, hb1⟩ := kv_ch hc
        have hb2 : K 12 b = 0 ∨ K 13 b = w + 1 := by omega
        have hk1 := hk.2.1 b
        have hk2 := hk.2.2.2.2 b hb
        obtain ⟨r1, r2, r3⟩ := kv_room_put (n := min left (K 11 b - K 12 b)) hb2
        have hn := ce_sum_up (f := fun b => if kv_room K w b = 0 then 0 else 1) (f1 := fun j => if kv_room (kv_put K b w (min left (K 11 b - K 12 b))) w j = 0 then 0 else 1) hb (fun j _ hj => by rw [r1 j hj])
        rw [if_neg (show ¬ kv_room K w b = 0 by omega)] at hn
        have hrk := kv_rk_put (b := b) (n := min left (K 11 b - K 12 b)) hk (by omega) hw
        have h02 : kv_put K b w (min left (K 11 b - K 12 b)) 0 2 = K 0 2 := kv_put_0 (by decide) (by decide)
        cases s with
        | zero =>
          unfold kv_nr at hs
          have h9 := kv_s_le (f := fun j => if kv_room K w j = 0 then 0 else 1) hb
          rw [if_neg (show ¬ kv_room K w b = 0 by omega)] at h9
          omega
        | succ s =>
          rw [kv_lay_some (by omega) hc, kv_lay_some (by omega) hc]
          by_cases e : left ≤ K 11 b - K 12 b
          · rw [show left - min left (K 11 b - K 12 b) = 0 by omega, kv_lay_0, kv_lay_0]
          · rw [if_pos (show kv_room (kv_put K b w (min left (K 11 b - K 12 b))) w b = 0 by omega)] at hn
            unfold kv_nr at ht hs ih
            exact ih hrk hw (by rw [h02]; omega) (by rw [h02]; omega)
/-- bottles go out of a bin -/
theorem kv_bw_rem {K : ce_V} {w b n : Nat} (hb : K 13 b = w + 1) (hn : n ≤ K 12 b) : (∀ v j, j ≠ b → kv_bw (kv_rem K b n) v j = kv_bw K v j) ∧ kv_bw K w b = K 12 b ∧ kv_bw (kv_rem K b n) w b = K 12 b - n ∧ ∀ v, v ≠ w → kv_bw (kv_rem K b n) v b = 0 ∧ kv_bw K v b = 0 := by
  refine ⟨fun v j hj => ?_, ?_, ?_, fun v hv => ?_⟩
  · unfold kv_bw
    rw [kv_rem_12, kv_rem_0 (by decide), if_neg hj]
  · unfold kv_bw
    rw [if_pos hb]
  · unfold kv_bw
    rw [kv_rem_12, kv_rem_0 (by decide), if_pos rfl, if_pos hb]
  · unfold kv_bw
    rw [kv_rem_0 (by decide), if_neg (by omega), if_neg (by omega)]
    exact ⟨rfl, rfl⟩
theorem kv_bs_rem {K : ce_V} {w b n : Nat} (h8 : b < 8) (hb : K 13 b = w + 1) (hn : n ≤ K 12 b) (v : Nat) : kv_bs (kv_rem K b n) v = kv_bs K v - (if v = w then n else 0) := by
  obtain ⟨h1, h2, h3, h4⟩ := kv_bw_rem hb hn
  have h := ce_sum_up (f := kv_bw K v) (f1 := kv_bw (kv_rem K b n) v) (n := 8) (m := b) h8 (fun j _ hj => h1 v j hj)
  have h5 := kv_s_le (f := kv_bw K v) h8
  rw [kv_bs_eq, kv_bs_eq]
  by_cases e : v = w
  · subst e
    rw [if_pos rfl]
    omega
  · have := h4 v e
    rw [if_neg e]
    omega
theorem kv_tk_none {K : ce_V} {w : Nat} (hk : kv_rk K) (h : kv_tf K w (K 0 2) = none) : kv_bs K w = 0 := by
  refine ce_sum_z (fun b hb => ?_)
  split
  · by_cases e : b < K 0 2
    · have := kv_tf_none h b e
      omega
    · exact hk.z (by omega)
  · rfl
theorem kv_take_all {w : Nat} : ∀ {t left : Nat} {K : ce_V}, kv_rk K → kv_nt K w ≤ t → left ≤ kv_bs K w → ∀ v, kv_bs (kv_take w t left K) v = kv_bs K v - (if v = w then left else 0) := by
  intro t
  induction t with
  | zero =>
    intro left K hk ht hl v
    have h0 : kv_bs K w = 0 := ce_sum_z (fun b hb => by
      by_cases e : b < K 0 2
      · have := ce_sum_zero (show kv_nt K w = 0 by omega) e
        split at this
        · assumption
        · omega
      · have := hk.z (b := b) (by omega)
        split
        · assumption
        · rfl)
    show kv_bs K v = _
    split <;> omega
  | succ t ih =>
    intro left K hk ht hl v
    by_cases h0 : left = 0
    · subst h0
      rw [kv_take_0]
      split <;> rfl
    · cases hc : kv_tf K w (K 0 2) with
      | none =>
        have := kv_tk_none hk hc
        omega
      | some b =>
        rw [kv_take_some (by omega) hc]
        obtain ⟨hb, hb1, hb2⟩ := kv_tf_lt hc
        have hk0 := hk.1
        obtain ⟨h1, h2, h3, h4⟩ := kv_bw_rem (n := min left (K 12 b)) hb2 (by omega)
        have hn := ce_sum_up (f := fun b => if kv_bw K w b = 0 then 0 else 1) (f1 := fun j => if kv_bw (kv_rem K b (min left (K 12 b))) w j = 0 then 0 else 1) hb (fun j _ hj => by rw [h1 w j hj])
        have hbs := kv_bs_rem (n := min left (K 12 b)) (show b < 8 by omega) hb2 (by omega)
        have hrk := kv_rk_rem (b := b) (n := min left (K 12 b)) hk
        have h02 : kv_rem K b (min left (K 12 b)) 0 2 = K 0 2 := kv_rem_0 (by decide)
        have hbw := hbs w
        rw [if_pos rfl] at hbw
        unfold kv_nt at ih ht
        by_cases e : left ≤ K 12 b
        · rw [show left - min left (K 12 b) = 0 by omega, kv_take_0, hbs v, show min left (K 12 b) = left by omega]
        · have h5 := ih (left := left - min left (K 12 b)) hrk (by
            rw [h02]
            rw [if_neg (show ¬ kv_bw K w b = 0 by omega), if_pos (show kv_bw (kv_rem K b (min left (K 12 b))) w b = 0 by omega)] at hn
            omega) (by omega) v
          rw [h5, hbs v]
          split <;> omega
theorem kv_take_t {w : Nat} : ∀ {t s left : Nat} {K : ce_V}, kv_rk K → kv_nt K w ≤ t → kv_nt K w ≤ s → kv_take w t left K = kv_take w s left K := by
  intro t
  induction t with
  | zero =>
    intro s left K hk ht hs
    have h0 : ∀ b, b < K 0 2 → kv_bw K w b = 0 := fun b hb => by
      have := ce_sum_zero (show kv_nt K w = 0 by omega) hb
      split at this
      · assumption
      · omega
    cases hc : kv_tf K w (K 0 2) with
    | none => rw [kv_take_none hc, kv_take_none hc]
    | some b =>
      obtain ⟨hb, hb1, hb2⟩ := kv_tf_lt hc
      have h1 := h0 b hb
      unfold kv_bw at h1
      rw [if_pos hb2] at h1
      omega
  | succ t ih =>
    intro s left K hk ht hs
    by_cases h0 : left = 0
    · subst h0
      rw [kv_take_0, kv_take_0]
    · cases hc : kv_tf K w (K 0 2) with
      | none => rw [kv_take_none hc, kv_take_none hc]
      | some b =>
        obtain ⟨hb, hb1, hb2⟩ := kv_tf_lt hc
        obtain ⟨h1, h2, h3, h4⟩ := kv_bw_rem (n := min left (K 12 b)) hb2 (by omega)
        have hn := ce_sum_up (f := fun b => if kv_bw K w b = 0 then 0 else 1) (f1 := fun j => if kv_bw (kv_rem K b (min left (K 12 b))) w j = 0 then 0 else 1) hb (fun j _ hj => by rw [h1 w j hj])
        have hrk := kv_rk_rem (b := b) (n := min left (K 12 b)) hk
        have h02 : kv_rem K b (min left (K 12 b)) 0 2 = K 0 2 := kv_rem_0 (by decide)
        rw [if_neg (show ¬ kv_bw K w b = 0 by omega)] at hn
        cases s with
        | zero =>
          unfold kv_nt at hs
          have h9 := kv_s_le (f := fun j => if kv_bw K w j = 0 then 0 else 1) hb
          rw [if_neg (show ¬ kv_bw K w b = 0 by omega)] at h9
          omega
        | succ s =>
          rw [kv_take_some (by omega) hc, kv_take_some (by omega) hc]
          by_cases e : left ≤ K 12 b
          · rw [show left - min left (K 12 b) = 0 by omega, kv_take_0, kv_take_0]
          · rw [if_pos (show kv_bw (kv_rem K b (min left (K 12 b))) w b = 0 by omega)] at hn
            unfold kv_nt at ht hs ih
            exact ih hrk (by rw [h02]; omega) (by rw [h02]; omega)
end CES
