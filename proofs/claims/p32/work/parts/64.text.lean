/-! a text that is told, and how it is read -/
def ks_apps (S : ks_S) : List Nat → ks_S
  | [] => S
  | c :: l => ks_apps (ks_app S c) l
theorem ks_apps_app {l2 : List Nat} : ∀ {l : List Nat} {S : ks_S}, ks_apps S (l ++ l2) = ks_apps (ks_apps S l) l2
  | [], _ => rfl
  | _ :: l, _ => ks_apps_app (l := l)
theorem ks_apps_1 {l : List Nat} {S : ks_S} {c : Nat} : ks_app (ks_apps S l) c = ks_apps S (l ++ [c]) := by
  rw [ks_apps_app]
  rfl
theorem ap_sl : ∀ {l : List Nat} {S : ks_S}, sl (ks_apps S l) = sl S + l.length
  | [], _ => rfl
  | c :: l, S => by
    show sl (ks_apps (ks_app S c) l) = _
    rw [ap_sl, List.length_cons]
    show sl S + 1 + l.length = _
    omega
theorem ap_sT : ∀ {l : List Nat} {S : ks_S} {i : Nat}, i < sl S → sT (ks_apps S l) i = sT S i
  | [], _, _, _ => rfl
  | c :: l, S, i, h => by
    show sT (ks_apps (ks_app S c) l) i = _
    rw [ap_sT (show i < sl S + 1 by omega)]
    exact if_neg (by omega)
/-- from p to the end of the text stands l -/
def tx_at (T : Nat → Nat) (len : Nat) : Nat → List Nat → Prop
  | p, [] => p = len
  | p, c :: l => (T p = c ∧ p < len) ∧ tx_at T len (p + 1) l
theorem tx_of : ∀ {l : List Nat} {S : ks_S}, tx_at (sT (ks_apps S l)) (sl (ks_apps S l)) (sl S) l
  | [], _ => rfl
  | c :: l, S => by
    refine ⟨⟨?_, ?_⟩, tx_of (l := l) (S := ks_app S c)⟩
    · show sT (ks_apps (ks_app S c) l) (sl S) = c
      rw [ap_sT (show sl S < sl S + 1 by omega)]
      exact if_pos rfl
    · rw [ap_sl, List.length_cons]
      omega
section TXA
variable {T : Nat → Nat} {len p v lo hi : Nat} {l : List Nat} {K : ce_V}
theorem tx_n1 (h : tx_at T len p ((48 + v) :: l)) (h1 : v ≤ hi) (h9 : v < 10) : kx_num T len 0 hi [1] 0 p = (some v, p + 1) := by
  obtain ⟨⟨a1, a2⟩, _⟩ := h
  rw [kx_num_y (by omega) (by omega), kx_num]
  rw [show 0 + (T p - 48) * 1 = v by omega]
theorem tx_n2 (h : tx_at T len p ((48 + v / 10) :: (48 + v % 10) :: l)) (h9 : v < 100) (h1 : lo ≤ v) (h2 : v ≤ hi) : kx_num T len lo hi [10, 1] 0 p = (some v, p + 2) := by
  obtain ⟨⟨a1, a2⟩, ⟨b1, b2⟩, _⟩ := h
  rw [kx_num_y (by omega) (by omega), kx_num_y (by omega) (by omega), kx_num]
  rw [show 0 + (T p - 48) * 10 + (T (p + 1) - 48) * 1 = v by omega]
theorem tx_n3 (h : tx_at T len p (48 :: (48 + v / 10) :: (48 + v % 10) :: l)) (h9 : v < 100) : kx_num T len 0 999 [100, 10, 1] 0 p = (some v, p + 3) := by
  obtain ⟨⟨a1, a2⟩, ⟨b1, b2⟩, ⟨c1, c2⟩, _⟩ := h
  rw [kx_num_y (by omega) (by omega), kx_num_y (by omega) (by omega), kx_num_y (by omega) (by omega), kx_num]
  rw [show 0 + (T p - 48) * 100 + (T (p + 1) - 48) * 10 + (T (p + 1 + 1) - 48) * 1 = v by omega]
theorem tx_pm (h : tx_at T len p (109 :: 48 :: (48 + v / 10) :: (48 + v % 10) :: l)) (h9 : v < 100) (hk : K 0 0 < 6) : kx_part T len K p = (true, kv_enr K v, p + 4) := by
  unfold kx_part kx_pm
  rw [if_pos h.1.1, if_neg (by omega), tx_n3 h.2 h9]
theorem tx_pw {u : Nat} (h : tx_at T len p (119 :: (48 + v / 10) :: (48 + v % 10) :: (48 + u / 10) :: (48 + u % 10) :: l)) (h1 : 1 ≤ v) (h9 : v ≤ 99) (hu : u ≤ 60) (hk : K 0 1 < 6) : kx_part T len K p = (true, kv_off K v u, p + 5) := by
  have e := h.1.1
  unfold kx_part kx_pw
  rw [if_neg (by omega), if_pos e, if_neg (by omega), tx_n2 h.2 (by omega) h1 h9]
  show (match kx_num T len 0 60 [10, 1] 0 (p + 1 + 2) with | (none, r) => (false, K, r) | (some n, r) => (true, kv_off K v n, r)) = _
  rw [tx_n2 h.2.2.2 (by omega) (Nat.zero_le _) hu]
theorem tx_pb (h : tx_at T len p (98 :: (48 + v / 10) :: (48 + v % 10) :: l)) (h1 : 1 ≤ v) (h9 : v ≤ 24) (hk : K 0 2 < 8) : kx_part T len K p = (true, kv_inst K v, p + 3) := by
  have e := h.1.1
  unfold kx_part kx_pb
  rw [if_neg (by omega), if_neg (by omega), if_pos e, if_neg (by omega), tx_n2 h.2 (by omega) h1 h9]
theorem tx_po {m w : Nat} (h : tx_at T len p (111 :: (48 + m) :: (48 + w) :: (48 + v / 10) :: (48 + v % 10) :: l)) (hm : m < K 0 0) (hw : w < K 0 1) (h6 : K 0 0 ≤ 6 ∧ K 0 1 ≤ 6) (h9 : v ≤ 60) : kx_part T len K p = (true, kv_ord K m w v, p + 5) := by
  have e := h.1.1
  unfold kx_part kx_po
  rw [if_neg (by omega), if_neg (by omega), if_neg (by omega), if_pos e, if_neg (by omega), tx_n1 h.2 (by omega) (by omega)]
  show (match kx_num T len 0 (K 0 1 - 1) [1] 0 (p + 1 + 1) with | (none, r) => (false, K, r) | (some w, r) => match kx_num T len 0 60 [10, 1] 0 r with | (none, u) => (false, K, u) | (some n, u) => (true, kv_ord K m w n, u)) = _
  rw [tx_n1 h.2.2 (by omega) (by omega)]
  show (match kx_num T len 0 60 [10, 1] 0 (p + 1 + 1 + 1) with | (none, u) => (false, K, u) | (some n, u) => (true, kv_ord K m w n, u)) = _
  rw [tx_n2 h.2.2.2 (by omega) (Nat.zero_le _) h9]
end TXA
/-- parts, one behind the other -/
def fl (f : Nat → List Nat) : Nat → Nat → List Nat
  | _, 0 => []
  | j, n + 1 => f j ++ fl f (j + 1) n
theorem fl_snoc {f : Nat → List Nat} : ∀ (n j : Nat), fl f j (n + 1) = fl f j n ++ f (j + n)
  | 0, j => by
    show f j ++ [] = [] ++ f (j + 0)
    rw [List.append_nil, List.nil_append, Nat.add_zero]
  | n + 1, j => by
    show f j ++ fl f (j + 1) (n + 1) = (f j ++ fl f (j + 1) n) ++ f (j + (n + 1))
    rw [fl_snoc n (j + 1), List.append_assoc, show j + 1 + n = j + (n + 1) by omega]
def tx_m (x j : Nat) : List Nat := [109, 48, 48 + x / 2 ^ j % 256 % 60 / 10, 48 + x / 2 ^ j % 256 % 60 % 10]
def tx_w (x j : Nat) : List Nat := [119, 48 + (1 + x / 2 ^ (2 * j) % 64) / 10, 48 + (1 + x / 2 ^ (2 * j) % 64) % 10, 48 + x / 2 ^ (3 * j) % 256 % 30 / 10, 48 + x / 2 ^ (3 * j) % 256 % 30 % 10]
def tx_b (x j : Nat) : List Nat := [98, 48 + (1 + x / 2 ^ j % 256 % 24) / 10, 48 + (1 + x / 2 ^ j % 256 % 24) % 10]
def tx_o (x y m w j : Nat) : List Nat := [111, 48 + x / 2 ^ j % 256 % m, 48 + y / 2 ^ j % 256 % w, 48 + x / 2 ^ (j + 3) % 256 % 21 / 10, 48 + x / 2 ^ (j + 3) % 256 % 21 % 10]
section TXB
variable {T : Nat → Nat} {len : Nat} {rest : List Nat}
theorem tx_lm {x : Nat} : ∀ {n j t p : Nat} {K : ce_V}, tx_at T len p (fl (tx_m x) j n ++ rest) → K 0 0 + n ≤ 6 → ∃ (K2 : ce_V) (p2 : Nat), kx_loop T len (t + n) K p = kx_loop T len t K2 p2 ∧ tx_at T len p2 rest ∧ K2 0 0 = K 0 0 + n ∧ K2 0 1 = K 0 1 ∧ K2 0 2 = K 0 2
  | 0, _, _, p, K, h, _ => ⟨K, p, rfl, h, rfl, rfl, rfl⟩
  | n + 1, j, t, p, K, h, hk => by
    have h : tx_at T len p (109 :: 48 :: (48 + x / 2 ^ j % 256 % 60 / 10) :: (48 + x / 2 ^ j % 256 % 60 % 10) :: (fl (tx_m x) (j + 1) n ++ rest)) := by
      have e : fl (tx_m x) j (n + 1) ++ rest = 109 :: 48 :: (48 + x / 2 ^ j % 256 % 60 / 10) :: (48 + x / 2 ^ j % 256 % 60 % 10) :: (fl (tx_m x) (j + 1) n ++ rest) := rfl
      rw [← e]; exact h
    have e := tx_pm (K := K) h (by omega) (by omega)
    have e0 : ∀ v, kv_enr K v 0 0 = K 0 0 + 1 := fun v => kv_up_eq
    have e1 : ∀ v, kv_enr K v 0 1 = K 0 1 := fun v => by unfold kv_enr; rw [kv_up_j (by decide), kv_up_ne (by decide)]
    have e2 : ∀ v, kv_enr K v 0 2 = K 0 2 := fun v => by unfold kv_enr; rw [kv_up_j (by decide), kv_up_ne (by decide)]
    obtain ⟨K2, p2, i1, i2, i3, i4, i5⟩ := tx_lm (n := n) (t := t) (K := kv_enr K (x / 2 ^ j % 256 % 60)) h.2.2.2.2 (by rw [e0]; omega)
    refine ⟨K2, p2, ?_, i2, by rw [i3, e0]; omega, by rw [i4, e1], by rw [i5, e2]⟩
    rw [kx_loop_y (by omega) h.1.2 (by rw [e]), e]
    exact i1
theorem tx_lw {x : Nat} : ∀ {n j t p : Nat} {K : ce_V}, tx_at T len p (fl (tx_w x) j n ++ rest) → K 0 1 + n ≤ 6 → ∃ (K2 : ce_V) (p2 : Nat), kx_loop T len (t + n) K p = kx_loop T len t K2 p2 ∧ tx_at T len p2 rest ∧ K2 0 0 = K 0 0 ∧ K2 0 1 = K 0 1 + n ∧ K2 0 2 = K 0 2
  | 0, _, _, p, K, h, _ => ⟨K, p, rfl, h, rfl, rfl, rfl⟩
  | n + 1, j, t, p, K, h, hk => by
    have h : tx_at T len p (119 :: (48 + (1 + x / 2 ^ (2 * j) % 64) / 10) :: (48 + (1 + x / 2 ^ (2 * j) % 64) % 10) :: (48 + x / 2 ^ (3 * j) % 256 % 30 / 10) :: (48 + x / 2 ^ (3 * j) % 256 % 30 % 10) :: (fl (tx_w x) (j + 1) n ++ rest)) := h
    have e := tx_pw (K := K) h (by omega) (by omega) (by omega) (by omega)
    have e1 : ∀ v u, kv_off K v u 0 1 = K 0 1 + 1 := fun v u => kv_up_eq
    have e0 : ∀ v u, kv_off K v u 0 0 = K 0 0 := fun v u => by unfold kv_off; rw [kv_up_j (by decide), kv_up_ne (by decide), kv_up_ne (by decide), kv_up_ne (by decide)]
    have e2 : ∀ v u, kv_off K v u 0 2 = K 0 2 := fun v u => by unfold kv_off; rw [kv_up_j (by decide), kv_up_ne (by decide), kv_up_ne (by decide), kv_up_ne (by decide)]
    obtain ⟨K2, p2, i1, i2, i3, i4, i5⟩ := tx_lw (n := n) (t := t) (K := kv_off K (1 + x / 2 ^ (2 * j) % 64) (x / 2 ^ (3 * j) % 256 % 30)) h.2.2.2.2.2 (by rw [e1]; omega)
    refine ⟨K2, p2, ?_, i2, by rw [i3, e0], by rw [i4, e1]; omega, by rw [i5, e2]⟩
    rw [kx_loop_y (by omega) h.1.2 (by rw [e]), e]
    exact i1
theorem tx_lb {x : Nat} : ∀ {n j t p : Nat} {K : ce_V}, tx_at T len p (fl (tx_b x) j n ++ rest) → K 0 2 + n ≤ 8 → ∃ (K2 : ce_V) (p2 : Nat), kx_loop T len (t + n) K p = kx_loop T len t K2 p2 ∧ tx_at T len p2 rest ∧ K2 0 0 = K 0 0 ∧ K2 0 1 = K 0 1 ∧ K2 0 2 = K 0 2 + n
  | 0, _, _, p, K, h, _ => ⟨K, p, rfl, h, rfl, rfl, rfl⟩
  | n + 1, j, t, p, K, h, hk => by
    have h : tx_at T len p (98 :: (48 + (1 + x / 2 ^ j % 256 % 24) / 10) :: (48 + (1 + x / 2 ^ j % 256 % 24) % 10) :: (fl (tx_b x) (j + 1) n ++ rest)) := h
    have e := tx_pb (K := K) h (by omega) (by omega) (by omega)
    have e2 : ∀ v, kv_inst K v 0 2 = K 0 2 + 1 := fun v => kv_inst_b
    have e0 : ∀ v, kv_inst K v 0 0 = K 0 0 := fun v => kv_inst_0 (Or.inr (by decide)) (by decide)
    have e1 : ∀ v, kv_inst K v 0 1 = K 0 1 := fun v => kv_inst_0 (Or.inr (by decide)) (by decide)
    obtain ⟨K2, p2, i1, i2, i3, i4, i5⟩ := tx_lb (n := n) (t := t) (K := kv_inst K (1 + x / 2 ^ j % 256 % 24)) h.2.2.2 (by rw [e2]; omega)
    refine ⟨K2, p2, ?_, i2, by rw [i3, e0], by rw [i4, e1], by rw [i5, e2]; omega⟩
    rw [kx_loop_y (by omega) h.1.2 (by rw [e]), e]
    exact i1
theorem tx_lo {x y m w : Nat} (hm : 0 < m) (hw : 0 < w) : ∀ {n j t p : Nat} {K : ce_V}, tx_at T len p (fl (tx_o x y m w) j n ++ rest) → K 0 0 = m → K 0 1 = w → m ≤ 6 → w ≤ 6 → ∃ (K2 : ce_V) (p2 : Nat), kx_loop T len (t + n) K p = kx_loop T len t K2 p2 ∧ tx_at T len p2 rest
  | 0, _, _, p, K, h, _, _, _, _ => ⟨K, p, rfl, h⟩
  | n + 1, j, t, p, K, h, h1, h2, h3, h4 => by
    have h : tx_at T len p (111 :: (48 + x / 2 ^ j % 256 % m) :: (48 + y / 2 ^ j % 256 % w) :: (48 + x / 2 ^ (j + 3) % 256 % 21 / 10) :: (48 + x / 2 ^ (j + 3) % 256 % 21 % 10) :: (fl (tx_o x y m w) (j + 1) n ++ rest)) := h
    have g1 : x / 2 ^ j % 256 % m < m := Nat.mod_lt _ hm
    have g2 : y / 2 ^ j % 256 % w < w := Nat.mod_lt _ hw
    have e := tx_po (K := K) h (by omega) (by omega) (by omega) (by omega)
    have e0 : ∀ a b v i, kv_ord K a b v 0 i = K 0 i := fun a b v i => by unfold kv_ord; rw [kv_up_ne (by decide)]
    obtain ⟨K2, p2, i1, i2⟩ := tx_lo hm hw (n := n) (t := t) (K := kv_ord K (x / 2 ^ j % 256 % m) (y / 2 ^ j % 256 % w) (x / 2 ^ (j + 3) % 256 % 21)) h.2.2.2.2.2 (by rw [e0]; exact h1) (by rw [e0]; exact h2) h3 h4
    refine ⟨K2, p2, ?_, i2⟩
    rw [kx_loop_y (by omega) h.1.2 (by rw [e]), e]
    exact i1
end TXB
/-- the text of a club -/
def tx_all (x y : Nat) : List Nat := [67] ++ fl (tx_m x) 0 (1 + y % 6) ++ fl (tx_w x) 0 (1 + y / 6 % 4) ++ fl (tx_b x) 0 (y / 24 % 9) ++ fl (tx_o x y (1 + y % 6) (1 + y / 6 % 4)) 0 6
theorem tx_read {S : ks_S} {x y : Nat} (h0 : sl S = 0) : (kx_read (sT (ks_apps S (tx_all x y))) (sl (ks_apps S (tx_all x y)))).1 = none := by
  have h := tx_of (l := tx_all x y) (S := S)
  rw [h0] at h
  generalize sT (ks_apps S (tx_all x y)) = T at h ⊢
  generalize sl (ks_apps S (tx_all x y)) = len at h ⊢
  have e : tx_all x y = 67 :: (fl (tx_m x) 0 (1 + y % 6) ++ (fl (tx_w x) 0 (1 + y / 6 % 4) ++ (fl (tx_b x) 0 (y / 24 % 9) ++ (fl (tx_o x y (1 + y % 6) (1 + y / 6 % 4)) 0 6 ++ [])))) := by
    unfold tx_all
    simp only [List.append_assoc, List.append_nil, List.cons_append, List.nil_append]
  rw [e] at h
  obtain ⟨⟨a1, a2⟩, h⟩ := h
  unfold kx_read
  rw [if_neg (by omega)]
  have z : ∀ i, kv_0 0 i = 0 := fun _ => rfl
  obtain ⟨K1, p1, b1, b2, b3, b4, b5⟩ := tx_lm (t := 120 - (1 + y % 6)) (K := kv_0) h (by rw [z]; omega)
  obtain ⟨K2, p2, c1, c2, c3, c4, c5⟩ := tx_lw (t := 120 - (1 + y % 6) - (1 + y / 6 % 4)) (K := K1) b2 (by rw [b4, z]; omega)
  obtain ⟨K3, p3, d1, d2, d3, d4, d5⟩ := tx_lb (t := 120 - (1 + y % 6) - (1 + y / 6 % 4) - y / 24 % 9) (K := K2) c2 (by rw [c5, b5, z]; omega)
  obtain ⟨K4, p4, f1, f2⟩ := tx_lo (t := 120 - (1 + y % 6) - (1 + y / 6 % 4) - y / 24 % 9 - 6) (by omega) (by omega) (K := K3) d2 (by rw [d3, c3, b3, z]; omega) (by rw [d4, c4, b4, z]; omega) (by omega) (by omega)
  rw [show 120 - (1 + y % 6) + (1 + y % 6) = 120 by omega] at b1
  rw [show 120 - (1 + y % 6) - (1 + y / 6 % 4) + (1 + y / 6 % 4) = 120 - (1 + y % 6) by omega] at c1
  rw [show 120 - (1 + y % 6) - (1 + y / 6 % 4) - y / 24 % 9 + y / 24 % 9 = 120 - (1 + y % 6) - (1 + y / 6 % 4) by omega] at d1
  rw [show 120 - (1 + y % 6) - (1 + y / 6 % 4) - y / 24 % 9 - 6 + 6 = 120 - (1 + y % 6) - (1 + y / 6 % 4) - y / 24 % 9 by omega] at f1
  have f2 : p4 = len := f2
  rw [b1, c1, d1, f1, kx_loop_n (by omega)]
theorem iv_apps : ∀ {l : List Nat} {S : ks_S}, kl_iv S → (∀ c, c ∈ l → c < 256) → kl_iv (ks_apps S l)
  | [], _, h, _ => h
  | c :: l, _, h, hl => iv_apps (l := l) (iv_app h (hl c List.mem_cons_self)) (fun d hd => hl d (List.mem_cons_of_mem _ hd))
theorem tx_255 (n : Nat) : nI n &&& nI 255 = nI (n % 256) := by
  rw [kp_and, show (255 : Nat) = 2 ^ 8 - 1 from rfl, Nat.and_two_pow_sub_one_eq_mod]
theorem tx_63 (n : Nat) : nI n &&& nI 63 = nI (n % 64) := by
  rw [kp_and, show (63 : Nat) = 2 ^ 6 - 1 from rfl, Nat.and_two_pow_sub_one_eq_mod]
theorem tx_1 (n : Nat) : nI n &&& nI 1 = nI (n % 2) := kp_bit n
