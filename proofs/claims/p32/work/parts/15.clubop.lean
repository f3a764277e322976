section CEL
/-! a club in the heap: its rows -/
def kv_ad (k : Nat) : Nat := if k ≤ 1 then 1 else if k ≤ 6 then k + 1 else 2 * k - 5
def kv_sz (k : Nat) : Nat := if k ≤ 6 then 6 else 36
def ce_rC (g : ce_D) (c : Nat) (K : ce_V) (O : Nat → Int32) : Prop :=
  g c 0 = nI (K 0 0) ∧ g c 1 = nI (K 0 1) ∧ (∀ k, 1 ≤ k → k ≤ 10 → ce_rA g (c + kv_ad k) (kv_sz k) (K k)) ∧ (∀ m, m < 6 → g (c + 2) m = O m) ∧ ce_rK g (c + 16) K
theorem kv_ad_ne {k j : Nat} (h1 : 1 ≤ k) (h2 : 1 ≤ j) (h : k ≠ j) : kv_ad k ≠ kv_ad j := by
  unfold kv_ad
  split <;> split <;> (try split) <;> (try split) <;> omega
theorem kv_ad_2 {k : Nat} (h1 : 1 ≤ k) (h2 : k ≤ 10) : kv_ad k ≠ 2 ∧ 1 ≤ kv_ad k ∧ kv_ad k < 16 := by
  unfold kv_ad
  split
  · omega
  · split <;> omega
theorem ce_rC.a {g : ce_D} {c : Nat} {K : ce_V} {O : Nat → Int32} (h : ce_rC g c K O) (k : Nat) (h1 : 1 ≤ k ∧ k ≤ 10) : ce_rA g (c + kv_ad k) (kv_sz k) (K k) := h.2.2.1 k h1.1 h1.2
theorem ce_rC.o {g : ce_D} {c : Nat} {K : ce_V} {O : Nat → Int32} (h : ce_rC g c K O) {m : Nat} (hm : m < 6) : g (c + 2) m = O m := h.2.2.2.1 m hm
theorem ce_rC.k {g : ce_D} {c : Nat} {K : ce_V} {O : Nat → Int32} (h : ce_rC g c K O) : ce_rK g (c + 16) K := h.2.2.2.2
/-- other cells -/
theorem ce_rC.kp {g g' : ce_D} {c : Nat} {K : ce_V} {O : Nat → Int32} (h : ce_rC g c K O) (e : ∀ i, i < 20 → g' (c + i) = g (c + i)) : ce_rC g' c K O := by
  have e0 : g' c = g c := e 0 (by omega)
  refine ⟨by rw [e0]; exact h.1, by rw [e0]; exact h.2.1, fun k h1 h2 => ?_, fun m hm => ?_, ?_⟩
  · have := kv_ad_2 h1 h2
    exact (h.2.2.1 k h1 h2).kp (e _ (by omega))
  · rw [e 2 (by omega)]; exact h.o hm
  · exact h.k.kp (fun i hi => by rw [Nat.add_assoc]; exact e _ (by omega))
theorem ce_rK_up {g : ce_D} {h : Nat} {K K' : ce_V} (hr : ce_rK g h K) (h0 : K' 0 2 = K 0 2) (h1 : K' 11 = K 11) (h2 : K' 12 = K 12) (h3 : K' 13 = K 13) : ce_rK g h K' := by
  unfold ce_rK ce_wi
  rw [h0, h1, h2, h3]
  exact hr
/-- a cell of a row -/
theorem ce_rC.up {g : ce_D} {c : Nat} {K : ce_V} {O : Nat → Int32} (h : ce_rC g c K O) (k i v : Nat) {a : Nat} (h1 : 1 ≤ k ∧ k ≤ 10) (ha : a = c + kv_ad k) : ce_rC (ce_up g a i (nI v)) c (kv_up K k i v) O := by
  have hk := kv_ad_2 h1.1 h1.2
  subst ha
  refine ⟨?_, ?_, fun j j1 j2 => ?_, fun m hm => ?_, ?_⟩
  · rw [ce_up_ne _ _ _ (by omega), kv_up_ne (by omega)]; exact h.1
  · rw [ce_up_ne _ _ _ (by omega), kv_up_ne (by omega)]; exact h.2.1
  · by_cases e : j = k
    · subst e
      intro n hn
      rw [ce_up_eq, kv_up_a]
      unfold upd
      split
      · rfl
      · exact h.2.2.1 j j1 j2 n hn
    · have := kv_ad_ne j1 h1.1 e
      rw [kv_up_ne e]
      exact (h.2.2.1 j j1 j2).kp (ce_up_ne _ _ _ (by omega))
  · rw [ce_up_ne _ _ _ (by omega)]; exact h.o hm
  · refine ce_rK_up (h.k.kp (fun n hn => ce_up_ne _ _ _ (by omega))) ?_ ?_ ?_ ?_
    · rw [kv_up_ne (by omega)]
    · rw [kv_up_ne (by omega)]
    · rw [kv_up_ne (by omega)]
    · rw [kv_up_ne (by omega)]
/-- what is owed -/
theorem ce_rC.upo {g : ce_D} {c : Nat} {K : ce_V} {O : Nat → Int32} (h : ce_rC g c K O) (m : Nat) (x : Int32) : ce_rC (ce_up g (c + 2) m x) c K (upd O m x) := by
  refine ⟨?_, ?_, fun j j1 j2 => ?_, fun n hn => ?_, ?_⟩
  · rw [ce_up_ne _ _ _ (by omega)]; exact h.1
  · rw [ce_up_ne _ _ _ (by omega)]; exact h.2.1
  · have := kv_ad_2 j1 j2
    exact (h.2.2.1 j j1 j2).kp (ce_up_ne _ _ _ (by omega))
  · rw [ce_up_eq]
    unfold upd
    split
    · rfl
    · exact h.o hn
  · exact h.k.kp (fun n hn => ce_up_ne _ _ _ (by omega))
/-- how many members, wines -/
theorem ce_rC.upc {g : ce_D} {c : Nat} {K : ce_V} {O : Nat → Int32} (h : ce_rC g c K O) (i v : Nat) (hi : i < 2) : ce_rC (ce_up g c i (nI v)) c (kv_up K 0 i v) O := by
  refine ⟨?_, ?_, fun j j1 j2 => ?_, fun n hn => ?_, ?_⟩
  · rw [ce_up_eq, kv_up_a]
    unfold upd
    split
    · rfl
    · exact h.1
  · rw [ce_up_eq, kv_up_a]
    unfold upd
    split
    · rfl
    · exact h.2.1
  · have := kv_ad_2 j1 j2
    rw [kv_up_ne (by omega)]
    exact (h.2.2.1 j j1 j2).kp (ce_up_ne _ _ _ (by omega))
  · rw [ce_up_ne _ _ _ (by omega)]; exact h.o hn
  · refine ce_rK_up (h.k.kp (fun n hn => ce_up_ne _ _ _ (by omega))) ?_ ?_ ?_ ?_
    · rw [kv_up_j (by omega)]
    · rw [kv_up_ne (by omega)]
    · rw [kv_up_ne (by omega)]
    · rw [kv_up_ne (by omega)]
/-- the rack alone -/
def kv_eq (K K' : ce_V) : Prop := (∀ j, j ≠ 2 → K' 0 j = K 0 j) ∧ ∀ a, 1 ≤ a → a ≤ 10 → K' a = K a
theorem ce_rC.rk {g g' : ce_D} {c : Nat} {K K' : ce_V} {O : Nat → Int32} (h : ce_rC g c K O) (hr : ce_rK g' (c + 16) K') (hf : ce_fr (c + 16) (c + 16 + 4) g g') (e : kv_eq K K') : ce_rC g' c K' O := by
  refine ⟨?_, ?_, fun j j1 j2 => ?_, fun n hn => ?_, hr⟩
  · rw [hf c (by omega), e.1 0 (by omega)]; exact h.1
  · rw [hf c (by omega), e.1 1 (by omega)]; exact h.2.1
  · have := kv_ad_2 j1 j2
    rw [e.2 j j1 j2]
    exact (h.2.2.1 j j1 j2).kp (hf _ (by omega))
  · rw [hf _ (by omega)]; exact h.o hn
theorem kv_eq_lay {w t left : Nat} {K : ce_V} : kv_eq K (kv_lay w t left K) := ⟨fun j _ => kv_lay_ne (by decide) (by decide), fun a _ _ => funext fun j => kv_lay_ne (by omega) (by omega)⟩
theorem kv_eq_take {w t left : Nat} {K : ce_V} : kv_eq K (kv_take w t left K) := ⟨fun j _ => kv_take_ne (by decide), fun a _ _ => funext fun j => kv_take_ne (by omega)⟩
theorem kv_eq_inst {n : Nat} {K : ce_V} : kv_eq K (kv_inst K n) := ⟨fun j hj => kv_inst_0 (by omega) (by decide), fun a _ _ => funext fun j => kv_inst_0 (by omega) (by omega)⟩
theorem kv_eq_car {a b n : Nat} {K : ce_V} : kv_eq K (kv_car K a b n) := ⟨fun j _ => (kv_rem_0 (by decide)).trans (kv_put_0 (by decide) (by decide)), fun a _ _ => funext fun j => (kv_rem_0 (by omega)).trans (kv_put_0 (by omega) (by omega))⟩
/-- what is true of the rows of every club: numbers, and what lies behind the last member, wine -/
def kv_sum (K : ce_V) (a w : Nat) : Nat := ce_sum (fun m => K a (m * 6 + w)) 6
def kv_bs (K : ce_V) (w : Nat) : Nat := ce_sum (fun b => if K 13 b = w + 1 then K 12 b else 0) 8
def kv_cl (K : ce_V) : Prop :=
  (kv_rk K) ∧
  (K 0 0 ≤ 6) ∧
  (K 0 1 ≤ 6) ∧
  (∀ m, K 1 m ≤ 999) ∧
  (∀ w, K 2 w ≤ 99) ∧
  (∀ w, K 5 w ≤ 2) ∧
  (∀ i, K 7 i ≤ 60) ∧
  (∀ w, w < 6 → K 3 w ≤ 60 ∧ K 3 w = K 4 w + kv_sum K 8 w + kv_sum K 9 w + kv_sum K 10 w + K 6 w) ∧
  (∀ w, w < 6 → kv_bs K w = kv_sum K 9 w) ∧
  (∀ m w, w < 6 → K 0 0 ≤ m → K 1 m = 0 ∧ K 7 (m * 6 + w) = 0 ∧ K 8 (m * 6 + w) = 0 ∧ K 9 (m * 6 + w) = 0 ∧ K 10 (m * 6 + w) = 0) ∧
  (∀ w, w < 6 → K 0 1 ≤ w → K 2 w = 0 ∧ K 3 w = 0 ∧ K 5 w = 0 ∧ (∀ m, m < 6 → K 7 (m * 6 + w) = 0)) ∧
  (∀ w, w < 6 → K 5 w ≠ 1 → ∀ m, m < 6 → K 8 (m * 6 + w) = 0) ∧
  (∀ w, w < 6 → K 5 w ≠ 2 → ∀ m, m < 6 → K 9 (m * 6 + w) = 0 ∧ K 10 (m * 6 + w) = 0)
theorem kv_cl.rk {K : ce_V} (h : kv_cl K) : kv_rk K := h.1
theorem kv_cl.me {K : ce_V} (h : kv_cl K) : K 0 0 ≤ 6 := h.2.1
theorem kv_cl.wi {K : ce_V} (h : kv_cl K) : K 0 1 ≤ 6 := h.2.2.1
theorem kv_cl.po {K : ce_V} (h : kv_cl K) : ∀ m, K 1 m ≤ 999 := h.2.2.2.1
theorem kv_cl.pr {K : ce_V} (h : kv_cl K) : ∀ w, K 2 w ≤ 99 := h.2.2.2.2.1
theorem kv_cl.st {K : ce_V} (h : kv_cl K) : ∀ w, K 5 w ≤ 2 := h.2.2.2.2.2.1
theorem kv_cl.od {K : ce_V} (h : kv_cl K) : ∀ i, K 7 i ≤ 60 := h.2.2.2.2.2.2.1
theorem kv_cl.bo {K : ce_V} (h : kv_cl K) : ∀ w, w < 6 → K 3 w ≤ 60 ∧ K 3 w = K 4 w + kv_sum K 8 w + kv_sum K 9 w + kv_sum K 10 w + K 6 w := h.2.2.2.2.2.2.2.1
theorem kv_cl.bi {K : ce_V} (h : kv_cl K) : ∀ w, w < 6 → kv_bs K w = kv_sum K 9 w := h.2.2.2.2.2.2.2.2.1
theorem kv_cl.zm {K : ce_V} (h : kv_cl K) : ∀ m w, w < 6 → K 0 0 ≤ m → K 1 m = 0 ∧ K 7 (m * 6 + w) = 0 ∧ K 8 (m * 6 + w) = 0 ∧ K 9 (m * 6 + w) = 0 ∧ K 10 (m * 6 + w) = 0 := h.2.2.2.2.2.2.2.2.2.1
theorem kv_cl.zw {K : ce_V} (h : kv_cl K) : ∀ w, w < 6 → K 0 1 ≤ w → K 2 w = 0 ∧ K 3 w = 0 ∧ K 5 w = 0 ∧ (∀ m, m < 6 → K 7 (m * 6 + w) = 0) := h.2.2.2.2.2.2.2.2.2.2.1
theorem kv_cl.z8 {K : ce_V} (h : kv_cl K) : ∀ w, w < 6 → K 5 w ≠ 1 → ∀ m, m < 6 → K 8 (m * 6 + w) = 0 := h.2.2.2.2.2.2.2.2.2.2.2.1
theorem kv_cl.z9 {K : ce_V} (h : kv_cl K) : ∀ w, w < 6 → K 5 w ≠ 2 → ∀ m, m < 6 → K 9 (m * 6 + w) = 0 ∧ K 10 (m * 6 + w) = 0 := h.2.2.2.2.2.2.2.2.2.2.2.2
end CEL
section CEM
theorem ce_rC.r {g : ce_D} {c : Nat} {K : ce_V} {O : Nat → Int32} (h : ce_rC g c K O) (k : Nat) (h1 : 1 ≤ k ∧ k ≤ 6) {j : Nat} (hj : j < 6) : g (c + kv_ad k) j = nI (K k j) := h.a k ⟨h1.1, by omega⟩ j (by unfold kv_sz; rw [if_pos h1.2]; exact hj)
theorem ce_rC.t {g : ce_D} {c : Nat} {K : ce_V} {O : Nat → Int32} (h : ce_rC g c K O) (k : Nat) (h1 : 7 ≤ k ∧ k ≤ 10) {j : Nat} (hj : j < 36) : g (c + kv_ad k) j = nI (K k j) := h.a k ⟨by omega, h1.2⟩ j (by unfold kv_sz; rw [if_neg (by omega)]; exact hj)
theorem n_X5_of {σ : ce_S} {g : ce_D} {h m w : Nat} (hT : ce_LT σ h) (hm : m < 6) (hw : w < 6) (v : Int32) (hv : g (h + 1) (m * 6 + w) = v) : ce_CT (ce_r 0) mX5_of [.ref (h), .int (nI m), .int (nI w)] σ g (ce_pv v σ g) ce_no := hv ▸ m_X5_of h m w hT hm hw
theorem n_X5_ofWine {σ : ce_S} {g : ce_D} {h w : Nat} (hT : ce_LT σ h) (hw : w < 6) (F : Nat → Nat) (hF : ∀ m, m < 6 → g (h + 1) (m * 6 + w) = nI (F m)) (v : Nat) (hv : ce_sum F 6 = v) : ce_CT (ce_r 1) mX5_ofWine [.ref (h), .int (nI w)] σ g (ce_pv (nI v) σ g) ce_no := hv ▸ (ce_isum_nI (f := fun m => g (h + 1) (m * 6 + w)) hF) ▸ m_X5_ofWine h w hT hw
theorem n_X5_ofMember {σ : ce_S} {g : ce_D} {h m : Nat} (hT : ce_LT σ h) (hm : m < 6) (F : Nat → Nat) (hF : ∀ w, w < 6 → g (h + 1) (m * 6 + w) = nI (F w)) : ce_CT (ce_r 1) mX5_ofMember [.ref (h), .int (nI m)] σ g (ce_pv (nI (ce_sum F 6)) σ g) ce_no := (ce_isum_nI (f := fun w => g (h + 1) (m * 6 + w)) hF) ▸ m_X5_ofMember h m hT hm
theorem n_X5_ofAll {σ : ce_S} {g : ce_D} {h : Nat} (hT : ce_LT σ h) (F : Nat → Nat) (hF : ∀ j, j < 36 → g (h + 1) j = nI (F j)) : ce_CT (ce_r 1) mX5_ofAll [.ref (h)] σ g (ce_pv (nI (ce_sum F 36)) σ g) ce_no := (ce_isum_nI (f := g (h + 1)) hF) ▸ m_X5_ofAll h hT
theorem n_X7_sumOf {σ : ce_S} {g : ce_D} {a n : Nat} (hA : ce_LA σ 10 a n) (hn : n ≤ 1000) (F : Nat → Nat) (hF : ∀ j, j < n → g a j = nI (F j)) : ce_CT (ce_r 0) mX7_sumOf [.ref (a)] σ g (ce_pv (nI (ce_sum F n)) σ g) ce_no := (ce_isum_nI (f := g a) hF) ▸ m_X7_sumOf a n hA hn
theorem o_X7_sumOf {σ : ce_S} {g : ce_D} {a n : Nat} (hA : ce_LA σ 10 a n) (hn : n ≤ 1000) (F : Nat → Int32) (hF : ∀ j, j < n → g a j = F j) : ce_CT (ce_r 0) mX7_sumOf [.ref (a)] σ g (ce_pv (ce_isum F n) σ g) ce_no := (ce_isum_cong (f := g a) hF) ▸ m_X7_sumOf a n hA hn
theorem kv_cl.i7 {K : ce_V} (h : kv_cl K) : K 0 2 ≤ 8 := h.rk.1
theorem kv_s_le {f : Nat → Nat} {j : Nat} : ∀ {n : Nat}, j < n → f j ≤ ce_sum f n
  | 0, h => by omega
  | n + 1, h => by
    rw [ce_sum]
    by_cases e : j = n
    · subst e; omega
    · have := kv_s_le (f := f) (n := n) (j := j) (by omega)
      omega
/-- how many bottles a member can have -/
theorem kv_cl.le {K : ce_V} (h : kv_cl K) {m w : Nat} (hm : m < 6) (hw : w < 6) : K 8 (m * 6 + w) ≤ 60 ∧ K 9 (m * 6 + w) ≤ 60 ∧ K 10 (m * 6 + w) ≤ 60 ∧ K 4 w ≤ 60 ∧ K 3 w ≤ 60 ∧ K 6 w ≤ 60 := by
  have h1 := h.bo w hw
  have h2 := kv_s_le (f := fun m => K 8 (m * 6 + w)) hm
  have h3 := kv_s_le (f := fun m => K 9 (m * 6 + w)) hm
  have h4 := kv_s_le (f := fun m => K 10 (m * 6 + w)) hm
  unfold kv_sum at h1
  refine ⟨?_, ?_, ?_, ?_, ?_, ?_⟩ <;> omega
def kv_memF (K : ce_V) (x : Int32) : Nat := if x.toInt < 0 ∨ 999 < x.toInt then 2 else if K 0 0 < 6 then 0 else 3
def kv_winF (K : ce_V) (p n : Int32) : Nat := if p.toInt < 1 ∨ 99 < p.toInt ∨ n.toInt < 0 ∨ 60 < n.toInt then 2 else if K 0 1 < 6 then 0 else 3
def kv_ordF (K : ce_V) (x y n : Int32) : Nat := if ce_in x (K 0 0) ∧ ce_in y (K 0 1) then (if n.toInt < 0 ∨ 60 < n.toInt then 2 else if K 5 (ce_n y) = 0 then 0 else 3) else 1
def kv_allF (K : ce_V) (y : Int32) : Nat := if ce_in y (K 0 1) then (if K 5 (ce_n y) = 0 then 0 else 3) else 1
def kv_delF (K : ce_V) (y : Int32) : Nat := if ce_in y (K 0 1) then (if K 5 (ce_n y) = 1 ∧ kv_sum K 8 (ce_n y) ≤ ce_sum (kv_room K (ce_n y)) (K 0 2) then 0 else 3) else 1
def kv_driF (K : ce_V) (x y n : Int32) : Nat := if ce_in x (K 0 0) ∧ ce_in y (K 0 1) then (if n.toInt < 1 ∨ 60 < n.toInt then 2 else if n.toInt ≤ (K 9 (ce_n x * 6 + ce_n y) : Int) then 0 else 3) else 1
def kv_gifF (K : ce_V) (x z y n : Int32) : Nat := if (ce_in x (K 0 0) ∧ ce_in y (K 0 1)) ∧ ce_in z (K 0 0) then (if x.toInt = z.toInt ∨ n.toInt < 1 ∨ 60 < n.toInt then 2 else if n.toInt ≤ (K 9 (ce_n x * 6 + ce_n y) : Int) then 0 else 3) else 1
def kv_corF (K : ce_V) (x y : Int32) : Nat := if ce_in x (K 0 0) ∧ ce_in y (K 0 1) then (if 0 < K 9 (ce_n x * 6 + ce_n y) then 0 else 3) else 1
/-- what is done -/
def kv_enr (K : ce_V) (p : Nat) : ce_V := kv_up (kv_up K 1 (K 0 0) p) 0 0 (K 0 0 + 1)
def kv_off (K : ce_V) (p n : Nat) : ce_V := kv_up (kv_up (kv_up (kv_up K 2 (K 0 1) p) 3 (K 0 1) n) 4 (K 0 1) n) 0 1 (K 0 1 + 1)
def kv_ord (K : ce_V) (m w n : Nat) : ce_V := kv_up K 7 (m * 6 + w) n
/-- who gets the next bottle, among the first n -/
def kv_bef (K : ce_V) (w m c : Nat) : Prop := (K 1 c + 1) * (K 8 (m * 6 + w) + 1) < (K 1 m + 1) * (K 8 (c * 6 + w) + 1)
def kv_next (K : ce_V) (w : Nat) : Nat → Option Nat
  | 0 => none
  | n + 1 => if K 8 (n * 6 + w) < K 7 (n * 6 + w) then (match kv_next K w n with
    | none => some n
    | some c => if (K 1 c + 1) * (K 8 (n * 6 + w) + 1) < (K 1 n + 1) * (K 8 (c * 6 + w) + 1) then some n else some c) else kv_next K w n
theorem kv_next_lt {K : ce_V} {w : Nat} : ∀ {n c : Nat}, kv_next K w n = some c → c < n ∧ K 8 (c * 6 + w) < K 7 (c * 6 + w)
  | 0, c, h => by cases h
  | n + 1, c, h => by
    unfold kv_next at h
    split at h
    · rename_i hf
      cases hp : kv_next K w n with
      | none => rw [hp] at h; cases h; exact ⟨by omega, hf⟩
      | some d =>
        rw [hp] at h
        have ih := kv_next_lt hp
        dsimp only at h
        split at h
        · cases h; exact ⟨by omega, hf⟩
        · cases h; exact ⟨by omega, ih.2⟩
    · have ih := kv_next_lt h
      exact ⟨by omega, ih.2⟩
def kv_give1 (K : ce_V) (m w : Nat) : ce_V := kv_up (kv_up K 8 (m * 6 + w) (K 8 (m * 6 + w) + 1)) 4 w (K 4 w - 1)
def kv_share (w : Nat) : Nat → ce_V → ce_V
  | 0, K => K
  | t + 1, K => if K 4 w = 0 then K else match kv_next K w (K 0 0) with
    | none => K
    | some m => kv_share w t (kv_give1 K m w)
def kv_half (K : ce_V) (w n : Nat) : Nat := (K 2 w * n + 1) / 2
/-- the end of an allocation, for the first n members -/
def kv_end (w : Nat) : Nat → ce_V → ce_V
  | 0, K => K
  | n + 1, K => kv_up (kv_up (kv_end w n K) 1 n (min 999 (K 1 n + K 8 (n * 6 + w)))) 7 (n * 6 + w) 0
def ko_end (K : ce_V) (w n : Nat) (O : Nat → Int32) : Nat → Int32 := fun m => if m < n then O m + nI (kv_half K w (K 8 (m * 6 + w))) else O m
/-- the end of a delivery, for the first n members -/
def kv_del (w : Nat) : Nat → ce_V → ce_V
  | 0, K => K
  | n + 1, K => kv_up (kv_up (kv_del w n K) 9 (n * 6 + w) (K 8 (n * 6 + w))) 8 (n * 6 + w) 0
def ko_del (K : ce_V) (w n : Nat) (O : Nat → Int32) : Nat → Int32 := fun m => if m < n then O m + nI (K 2 w * K 8 (m * 6 + w) - kv_half K w (K 8 (m * 6 + w))) else O m
theorem kv_end_ne {w a j : Nat} (h : a ≠ 1 ∧ a ≠ 7) : ∀ {n : Nat} {K : ce_V}, kv_end w n K a j = K a j
  | 0, _ => rfl
  | n + 1, K => by
    show kv_up (kv_up (kv_end w n K) 1 n _) 7 (n * 6 + w) 0 a j = K a j
    rw [kv_up_ne h.2, kv_up_ne h.1, kv_end_ne h]
theorem kv_end_1 {w j : Nat} : ∀ {n : Nat} {K : ce_V}, n ≤ j → kv_end w n K 1 j = K 1 j
  | 0, _, _ => rfl
  | n + 1, K, h => by
    show kv_up (kv_up (kv_end w n K) 1 n _) 7 (n * 6 + w) 0 1 j = K 1 j
    rw [kv_up_ne (by decide), kv_up_j (by omega), kv_end_1 (by omega)]
theorem kv_del_ne {w a j : Nat} (h : a ≠ 8 ∧ a ≠ 9) : ∀ {n : Nat} {K : ce_V}, kv_del w n K a j = K a j
  | 0, _ => rfl
  | n + 1, K => by
    show kv_up (kv_up (kv_del w n K) 9 (n * 6 + w) _) 8 (n * 6 + w) 0 a j = K a j
    rw [kv_up_ne h.1, kv_up_ne h.2, kv_del_ne h]
theorem kv_del_8 {w j : Nat} (hw : w < 6) : ∀ {n : Nat} {K : ce_V}, n ≤ j → kv_del w n K 8 (j * 6 + w) = K 8 (j * 6 + w)
  | 0, _, _ => rfl
  | n + 1, K, h => by
    show kv_up (kv_up (kv_del w n K) 9 (n * 6 + w) _) 8 (n * 6 + w) 0 8 (j * 6 + w) = K 8 (j * 6 + w)
    rw [kv_up_j (by omega), kv_up_ne (by decide), kv_del_8 hw (by omega)]
theorem sub_nI {a n : Nat} (h : n ≤ a) : nI a + -(nI n) = nI (a - n) := by
  rw [← pk_sub h]
  exact (Int32.sub_eq_add_neg (nI a) (nI n)).symm
/-- the part that holds in the middle of an action too -/
def kv_c0 (K : ce_V) : Prop := kv_rk K ∧ K 0 0 ≤ 6 ∧ K 0 1 ≤ 6 ∧ (∀ m, K 1 m ≤ 999) ∧ ∀ w, K 2 w ≤ 99
theorem kv_c0.rk {K : ce_V} (h : kv_c0 K) : kv_rk K := h.1
theorem kv_c0.i7 {K : ce_V} (h : kv_c0 K) : K 0 2 ≤ 8 := h.1.1
theorem kv_c0.me {K : ce_V} (h : kv_c0 K) : K 0 0 ≤ 6 := h.2.1
theorem kv_c0.wi {K : ce_V} (h : kv_c0 K) : K 0 1 ≤ 6 := h.2.2.1
theorem kv_c0.po {K : ce_V} (h : kv_c0 K) : ∀ m, K 1 m ≤ 999 := h.2.2.2.1
theorem kv_c0.pr {K : ce_V} (h : kv_c0 K) : ∀ w, K 2 w ≤ 99 := h.2.2.2.2
theorem kv_cl.c0 {K : ce_V} (h : kv_cl K) : kv_c0 K := ⟨h.rk, h.me, h.wi, h.po, h.pr⟩
theorem kv_rk_eq {K K' : ce_V} (h : kv_rk K) (h0 : K' 0 2 = K 0 2) (h1 : K' 11 = K 11) (h2 : K' 12 = K 12) (h3 : K' 13 = K 13) : kv_rk K' := by
  unfold kv_rk
  rw [h0, h1, h2, h3]
  exact h
theorem kv_c0.ne {K : ce_V} (h : kv_c0 K) {a i v : Nat} (ha : 3 ≤ a ∧ a ≤ 10) : kv_c0 (kv_up K a i v) := by
  refine ⟨kv_rk_eq h.rk (by rw [kv_up_ne (by omega)]) (by rw [kv_up_ne (by omega)]) (by rw [kv_up_ne (by omega)]) (by rw [kv_up_ne (by omega)]), ?_, ?_, fun m => ?_, fun w => ?_⟩
  · rw [kv_up_ne (by omega)]; exact h.me
  · rw [kv_up_ne (by omega)]; exact h.wi
  · rw [kv_up_ne (by omega)]; exact h.po m
  · rw [kv_up_ne (by omega)]; exact h.pr w
theorem kv_c0.p {K : ce_V} (h : kv_c0 K) {i v : Nat} (hv : v ≤ 999) : kv_c0 (kv_up K 1 i v) := by
  refine ⟨kv_rk_eq h.rk (by rw [kv_up_ne (by omega)]) (by rw [kv_up_ne (by omega)]) (by rw [kv_up_ne (by omega)]) (by rw [kv_up_ne (by omega)]), ?_, ?_, fun m => ?_, fun w => ?_⟩
  · rw [kv_up_ne (by omega)]; exact h.me
  · rw [kv_up_ne (by omega)]; exact h.wi
  · rw [kv_up_a]
    split
    · exact hv
    · exact h.po m
  · rw [kv_up_ne (by omega)]; exact h.pr w
theorem kv_c0.lay {K : ce_V} (h : kv_c0 K) {w t n : Nat} (hw : w < 6) : kv_c0 (kv_lay w t n K) := by
  refine ⟨kv_rk_lay hw h.rk, ?_, ?_, fun m => ?_, fun w => ?_⟩
  · rw [kv_lay_ne (by decide) (by decide)]; exact h.me
  · rw [kv_lay_ne (by decide) (by decide)]; exact h.wi
  · rw [kv_lay_ne (by decide) (by decide)]; exact h.po m
  · rw [kv_lay_ne (by decide) (by decide)]; exact h.pr w
theorem kv_c0.take {K : ce_V} (h : kv_c0 K) {w t n : Nat} : kv_c0 (kv_take w t n K) := by
  refine ⟨kv_rk_take h.rk, ?_, ?_, fun m => ?_, fun w => ?_⟩
  · rw [kv_take_ne (by decide)]; exact h.me
  · rw [kv_take_ne (by decide)]; exact h.wi
  · rw [kv_take_ne (by decide)]; exact h.po m
  · rw [kv_take_ne (by decide)]; exact h.pr w
/-- an allocation, a delivery, and the rest -/
def kv_all (K : ce_V) (w : Nat) : ce_V := kv_up (kv_end w (K 0 0) (kv_share w 60 K)) 5 w 1
def ko_all (K : ce_V) (w : Nat) (O : Nat → Int32) : Nat → Int32 := ko_end (kv_share w 60 K) w (K 0 0) O
def kv_bri (K : ce_V) (w : Nat) : ce_V := kv_up (kv_del w (K 0 0) (kv_lay w (K 0 2) (kv_sum K 8 w) K)) 5 w 2
def ko_bri (K : ce_V) (w : Nat) (O : Nat → Int32) : Nat → Int32 := ko_del K w (K 0 0) O
def kv_dri (K : ce_V) (m w n : Nat) : ce_V := kv_up (kv_up (kv_take w (K 0 2) n K) 9 (m * 6 + w) (K 9 (m * 6 + w) - n)) 10 (m * 6 + w) (K 10 (m * 6 + w) + n)
def kv_han (K : ce_V) (m o w n : Nat) : ce_V := kv_up (kv_up K 9 (m * 6 + w) (K 9 (m * 6 + w) - n)) 9 (o * 6 + w) (K 9 (o * 6 + w) + n)
def kv_crk (K : ce_V) (w : Nat) : ce_V := kv_up (kv_take w (K 0 2) 1 K) 6 w (K 6 w + 1)
def kv_cor1 (K : ce_V) (w : Nat) : ce_V := kv_lay w (K 0 2) 1 (kv_up (kv_crk K w) 4 w (K 4 w - 1))
def kv_cor (K : ce_V) (m w : Nat) : ce_V := if 0 < K 4 w then kv_cor1 K w else kv_up (kv_crk K w) 9 (m * 6 + w) (K 9 (m * 6 + w) - 1)
def ko_cor (K : ce_V) (m w : Nat) (O : Nat → Int32) : Nat → Int32 := if 0 < K 4 w then O else upd O m (O m - nI (K 2 w))
theorem kv_share_ne {w a j : Nat} (h : a ≠ 4 ∧ a ≠ 8) : ∀ {t : Nat} {K : ce_V}, kv_share w t K a j = K a j
  | 0, _ => rfl
  | t + 1, K => by
    unfold kv_share
    split
    · rfl
    · generalize kv_next K w (K 0 0) = o
      cases o with
      | none => rfl
      | some b => exact (kv_share_ne h).trans (by unfold kv_give1; rw [kv_up_ne h.1, kv_up_ne h.2])
theorem kv_share_some {K : ce_V} {w t m : Nat} (h0 : 0 < K 4 w) (h : kv_next K w (K 0 0) = some m) : kv_share w (t + 1) K = kv_share w t (kv_give1 K m w) := by
  rw [kv_share, if_neg (by omega), h]
theorem kv_share_none {K : ce_V} {w t : Nat} (h : kv_next K w (K 0 0) = none) : kv_share w t K = K := by
  cases t with
  | zero => rfl
  | succ t =>
    rw [kv_share, h]
    split <;> rfl
theorem kv_share_z {K : ce_V} {w t : Nat} (h : K 4 w = 0) : kv_share w t K = K := by
  cases t with
  | zero => rfl
  | succ t => exact if_pos h
theorem sub_1 {a : Nat} (h : 1 ≤ a) : nI a + (-1) = nI (a - 1) := ce_dec h
end CEM
