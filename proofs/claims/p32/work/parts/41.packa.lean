/-! bits of numbers -/
theorem kp_and (a b : Nat) : nI a &&& nI b = nI (a &&& b) := by
  apply Int32.toBitVec_inj.1
  show BitVec.ofNat 32 a &&& BitVec.ofNat 32 b = BitVec.ofNat 32 (a &&& b)
  apply BitVec.eq_of_getLsbD_eq
  intro i hi
  simp [hi]
theorem kp_xor (a b : Nat) : nI a ^^^ nI b = nI (a ^^^ b) := by
  apply Int32.toBitVec_inj.1
  show BitVec.ofNat 32 a ^^^ BitVec.ofNat 32 b = BitVec.ofNat 32 (a ^^^ b)
  apply BitVec.eq_of_getLsbD_eq
  intro i hi
  simp [hi]
theorem kp_smod : ∀ n, n < 32 → ((nI n &&& 31).toBitVec.smod 32).toNat = n := by decide +kernel
theorem kp_shr {s b : Nat} (hs : s < 2 ^ 31) (hb : b < 32) : nI s >>> (nI b &&& 31) = nI (s / 2 ^ b) := pk_shrN hs _ b (kp_smod b hb)
theorem kp_bit (x : Nat) : nI x &&& nI 1 = nI (x % 2) := by rw [kp_and, Nat.and_one_is_mod]
theorem kp_shl {b : Nat} (hb : b < 9) : nI 1 <<< (nI b &&& 31) = nI (2 ^ b) := by
  have h : 2 ^ b ≤ 2 ^ 8 := Nat.pow_le_pow_right (by decide) (by omega)
  rw [pk_shlN (n := 1) _ b (kp_smod b (by omega)) (by omega), Nat.one_mul]
theorem kp_key : ∀ (k s q p : Nat), q < 2 ^ k → q &&& s = q → p &&& s = p → p < q → p ≤ (q - 1) &&& s
  | 0, s, q, p, h, _, _, hl => by omega
  | k + 1, s, q, p, h, h1, h2, hl => by
    have d1 : q / 2 &&& s / 2 = q / 2 := by rw [← Nat.and_div_two, h1]
    have d2 : p / 2 &&& s / 2 = p / 2 := by rw [← Nat.and_div_two, h2]
    have m2 : p % 2 = 1 → s % 2 = 1 := fun e => (Nat.and_mod_two_eq_one.mp (h2.symm ▸ e : (p &&& s) % 2 = 1)).2
    have e2 : ((q - 1) &&& s) / 2 = (q - 1) / 2 &&& s / 2 := Nat.and_div_two
    rw [Nat.pow_succ] at h
    by_cases hq : q % 2 = 1
    · rw [show (q - 1) / 2 = q / 2 by omega, d1] at e2
      omega
    · have ih := kp_key k (s / 2) (q / 2) (p / 2) (by omega) d1 d2 (by omega)
      rw [show (q - 1) / 2 = q / 2 - 1 by omega] at e2
      have m3 : s % 2 = 1 → ((q - 1) &&& s) % 2 = 1 := fun e => Nat.and_mod_two_eq_one.mpr ⟨by omega, e⟩
      omega
theorem kp_xs : ∀ (k s p : Nat), s < 2 ^ k → p &&& s = p → (s ^^^ p) + p = s
  | 0, s, p, h, h2 => by
    have h0 : s = 0 := by omega
    subst h0
    have : p = 0 := by rw [← h2, Nat.and_zero]
    subst this
    rfl
  | k + 1, s, p, h, h2 => by
    have d2 : p / 2 &&& s / 2 = p / 2 := by rw [← Nat.and_div_two, h2]
    have m2 : p % 2 = 1 → s % 2 = 1 := fun e => (Nat.and_mod_two_eq_one.mp (h2.symm ▸ e : (p &&& s) % 2 = 1)).2
    rw [Nat.pow_succ] at h
    have ih := kp_xs k (s / 2) (p / 2) (by omega) d2
    have e1 : (s ^^^ p) / 2 = s / 2 ^^^ p / 2 := Nat.xor_div_two
    have e2 : (s ^^^ p) % 2 = 1 ↔ ¬ (s % 2 = 1 ↔ p % 2 = 1) := Nat.xor_mod_two_eq_one
    rw [← e1] at ih
    omega
theorem kp_sub (q s : Nat) : ((q - 1) &&& s) &&& s = (q - 1) &&& s := by rw [Nat.and_assoc, Nat.and_self]
/-! in how few bins the cellar could lie, as the class finds it -/
def kp_room (K : ce_V) (s n : Nat) : Nat := ce_sum (fun b => if s / 2 ^ b % 2 = 1 then K 11 b else 0) n
def kp_bits (s : Nat) : Nat := ce_sum (fun b => s / 2 ^ b % 2) 8
def kp_can (R : Nat → Nat) (FL : Nat → Bool) (n s : Nat) : Nat → Nat → Bool
  | 0, _ => false
  | t + 1, p => if p = 0 then false else if n ≤ R p ∧ FL (s ^^^ p) = true then true else kp_can R FL n s t ((p - 1) &&& s)
def kp_wine (R : Nat → Nat) (FL : Nat → Bool) (n : Nat) : Nat → Bool := fun s => kp_can R FL n s 256 s
def kp_fl (K : ce_V) : Nat → Nat → Bool
  | 0 => fun s => decide (s = 0)
  | w + 1 => if kv_sum K 9 w = 0 then kp_fl K w else kp_wine (fun s => kp_room K s (K 0 2)) (kp_fl K w) (kv_sum K 9 w)
def kp_min (FL : Nat → Bool) (v : Nat) : Nat → Nat
  | 0 => v
  | s + 1 => if FL s = true then min (kp_min FL v s) (kp_bits s) else kp_min FL v s
def kp_few (K : ce_V) : Nat := kp_min (kp_fl K (K 0 1)) (K 0 2) (2 ^ K 0 2)
theorem kp_can_0 {R : Nat → Nat} {FL : Nat → Bool} {n s t : Nat} : kp_can R FL n s t 0 = false := by
  cases t with
  | zero => rfl
  | succ t => exact if_pos rfl
theorem kp_can_y {R : Nat → Nat} {FL : Nat → Bool} {n s t p : Nat} (ht : 0 < t) (hp : p ≠ 0) (h : n ≤ R p ∧ FL (s ^^^ p) = true) : kp_can R FL n s t p = true := by
  obtain ⟨u, rfl⟩ : ∃ u, t = u + 1 := ⟨t - 1, by omega⟩
  exact (if_neg hp).trans (if_pos h)
theorem kp_can_n {R : Nat → Nat} {FL : Nat → Bool} {n s t p : Nat} (ht : 0 < t) (hp : p ≠ 0) (h : ¬ (n ≤ R p ∧ FL (s ^^^ p) = true)) : kp_can R FL n s t p = kp_can R FL n s (t - 1) ((p - 1) &&& s) := by
  obtain ⟨u, rfl⟩ : ∃ u, t = u + 1 := ⟨t - 1, by omega⟩
  exact (if_neg hp).trans (if_neg h)
/-- only what is below s matters -/
theorem kp_can_cong {R : Nat → Nat} {F1 F2 : Nat → Bool} {n s k : Nat} (hs : s < 2 ^ k) (h : ∀ j, j < s → F1 j = F2 j) : ∀ {t p : Nat}, p &&& s = p → kp_can R F1 n s t p = kp_can R F2 n s t p
  | 0, _, _ => rfl
  | t + 1, p, hp => by
    unfold kp_can
    by_cases h0 : p = 0
    · rw [if_pos h0, if_pos h0]
    · have hx := kp_xs k s p hs hp
      rw [if_neg h0, if_neg h0, h _ (show s ^^^ p < s by omega), kp_can_cong hs h (kp_sub p s)]
theorem kp_room_le {K : ce_V} (hk : kv_rk K) (s : Nat) : ∀ n, kp_room K s n ≤ 24 * n
  | 0 => Nat.le_refl _
  | n + 1 => by
    have h1 := kp_room_le hk s n
    have h2 := hk.2.1 n
    unfold kp_room at *
    rw [ce_sum]
    have h3 : (if s / 2 ^ n % 2 = 1 then K 11 n else 0) ≤ 24 := by split <;> omega
    omega
theorem kp_bits_le (s : Nat) : kp_bits s ≤ 8 := by
  have h : ∀ n, ce_sum (fun b => s / 2 ^ b % 2) n ≤ n := fun n => by
    induction n with
    | zero => exact Nat.le_refl _
    | succ n ih =>
      rw [ce_sum]
      have : s / 2 ^ n % 2 < 2 := Nat.mod_lt _ (by decide)
      omega
  exact h 8
theorem kp_cnt : ∀ s, s < 256 → (let x := nI s; let y := x - ((x.toUInt32 >>> (Int32.toUInt32 1 &&& Int32.toUInt32 31)).toInt32 &&& 1431655765); let z := (y &&& 858993459) + ((y.toUInt32 >>> (Int32.toUInt32 2 &&& Int32.toUInt32 31)).toInt32 &&& 858993459); let u := (z + (z.toUInt32 >>> (Int32.toUInt32 4 &&& Int32.toUInt32 31)).toInt32) &&& 252645135; let v := u + (u.toUInt32 >>> (Int32.toUInt32 8 &&& Int32.toUInt32 31)).toInt32; (v + (v.toUInt32 >>> (Int32.toUInt32 16 &&& Int32.toUInt32 31)).toInt32) &&& 63) = nI (kp_bits s) := by decide +kernel
set_option maxHeartbeats 2000000 in
set_option maxRecDepth 20000 in
theorem m_J6_bitCount {σ : ce_S} {g : ce_D} (s : Nat) (hs : s < 256) : ce_CT (ce_r 0) mJ6_bitCount_0f7a4 [.int (nI s)] σ g (ce_pv (nI (kp_bits s)) σ g) ce_no := by
  refine ce_enterF (by decide +kernel) rfl (Nat.le_of_ble_eq_true rfl) (L := [some (.int (nI s))]) rfl ?_
  refine ce_iload_n dJ6_bitCount_0f7a4_0 rfl ?_
  refine ce_iload_n dJ6_bitCount_0f7a4_1 rfl ?_
  refine ce_iconst (v := 1) dJ6_bitCount_0f7a4_2 (by decide) ?_
  refine ce_iushr dJ6_bitCount_0f7a4_3 rfl ?_
  refine ce_ldcw dJ6_bitCount_0f7a4_4 kRJ6_265 ?_
  refine ce_iand dJ6_bitCount_0f7a4_7 rfl ?_
  refine ce_isub dJ6_bitCount_0f7a4_8 rfl ?_
  refine ce_istore_n dJ6_bitCount_0f7a4_9 (Nat.le_of_ble_eq_true rfl) rfl ?_
  refine ce_iload_n dJ6_bitCount_0f7a4_10 rfl ?_
  refine ce_ldcw dJ6_bitCount_0f7a4_11 kRJ6_266 ?_
  refine ce_iand dJ6_bitCount_0f7a4_14 rfl ?_
  refine ce_iload_n dJ6_bitCount_0f7a4_15 rfl ?_
  refine ce_iconst (v := 2) dJ6_bitCount_0f7a4_16 (by decide) ?_
  refine ce_iushr dJ6_bitCount_0f7a4_17 rfl ?_
  refine ce_ldcw dJ6_bitCount_0f7a4_18 kRJ6_266 ?_
  refine ce_iand dJ6_bitCount_0f7a4_21 rfl ?_
  refine ce_iadd dJ6_bitCount_0f7a4_22 rfl ?_
  refine ce_istore_n dJ6_bitCount_0f7a4_23 (Nat.le_of_ble_eq_true rfl) rfl ?_
  refine ce_iload_n dJ6_bitCount_0f7a4_24 rfl ?_
  refine ce_iload_n dJ6_bitCount_0f7a4_25 rfl ?_
  refine ce_iconst (v := 4) dJ6_bitCount_0f7a4_26 (by decide) ?_
  refine ce_iushr dJ6_bitCount_0f7a4_27 rfl ?_
  refine ce_iadd dJ6_bitCount_0f7a4_28 rfl ?_
  refine ce_ldcw dJ6_bitCount_0f7a4_29 kRJ6_267 ?_
  refine ce_iand dJ6_bitCount_0f7a4_32 rfl ?_
  refine ce_istore_n dJ6_bitCount_0f7a4_33 (Nat.le_of_ble_eq_true rfl) rfl ?_
  refine ce_iload_n dJ6_bitCount_0f7a4_34 rfl ?_
  refine ce_iload_n dJ6_bitCount_0f7a4_35 rfl ?_
  refine ce_bipush (v := 8) dJ6_bitCount_0f7a4_36 (by decide) ?_
  refine ce_iushr dJ6_bitCount_0f7a4_38 rfl ?_
  refine ce_iadd dJ6_bitCount_0f7a4_39 rfl ?_
  refine ce_istore_n dJ6_bitCount_0f7a4_40 (Nat.le_of_ble_eq_true rfl) rfl ?_
  refine ce_iload_n dJ6_bitCount_0f7a4_41 rfl ?_
  refine ce_iload_n dJ6_bitCount_0f7a4_42 rfl ?_
  refine ce_bipush (v := 16) dJ6_bitCount_0f7a4_43 (by decide) ?_
  refine ce_iushr dJ6_bitCount_0f7a4_45 rfl ?_
  refine ce_iadd dJ6_bitCount_0f7a4_46 rfl ?_
  refine ce_istore_n dJ6_bitCount_0f7a4_47 (Nat.le_of_ble_eq_true rfl) rfl ?_
  refine ce_iload_n dJ6_bitCount_0f7a4_48 rfl ?_
  refine ce_bipush (v := 63) dJ6_bitCount_0f7a4_49 (by decide) ?_
  refine ce_iand dJ6_bitCount_0f7a4_51 rfl ?_
  refine ce_iret dJ6_bitCount_0f7a4_52 rfl rfl (by decide) (by decide) ?_
  exact ⟨congrArg (fun z => some (Value.int z)) (kp_cnt s hs), rfl, rfl⟩
