section CEO
/-! the history: what stays when references of one array change -/
def ce_sm (s : Nat) (σ σ1 : ce_S) : Prop := ce_tp σ1 = ce_tp σ ∧ ce_kd σ1 = ce_kd σ ∧ ce_ln σ1 = ce_ln σ ∧ ce_gl σ1 = ce_gl σ ∧ ∀ a, a ≠ s → ce_gr σ1 a = ce_gr σ a
theorem ce_sm.rf {s : Nat} {σ : ce_S} : ce_sm s σ σ := ⟨rfl, rfl, rfl, rfl, fun _ _ => rfl⟩
theorem ce_sm.tr {s : Nat} {σ σ1 σ2 : ce_S} (h : ce_sm s σ σ1) (k : ce_sm s σ1 σ2) : ce_sm s σ σ2 := ⟨k.1.trans h.1, k.2.1.trans h.2.1, k.2.2.1.trans h.2.2.1, k.2.2.2.1.trans h.2.2.2.1, fun a ha => (k.2.2.2.2 a ha).trans (h.2.2.2.2 a ha)⟩
theorem ce_sm.up {s k : Nat} {r : Option Nat} {σ : ce_S} : ce_sm s σ (ce_upR σ s k r) := ⟨rfl, rfl, rfl, rfl, fun a ha => ce_upR_ne σ k r ha⟩
theorem ce_LA.sm {s K a n : Nat} {σ σ1 : ce_S} (h : ce_LA σ K a n) (k : ce_sm s σ σ1) : ce_LA σ1 K a n := ⟨by rw [k.2.1]; exact h.1, by rw [k.2.2.1]; exact h.2⟩
theorem ce_LT.sm {s a : Nat} {σ σ1 : ce_S} (h : ce_LT σ a) (k : ce_sm s σ σ1) (e : a ≠ s) : ce_LT σ1 a := ⟨by rw [k.2.1]; exact h.1, by rw [k.2.2.2.2 a e]; exact h.2.1, h.2.2.sm k⟩
theorem ce_LK.sm {s a : Nat} {σ σ1 : ce_S} (h : ce_LK σ a) (k : ce_sm s σ σ1) (e : a ≠ s) : ce_LK σ1 a := ⟨by rw [k.2.1]; exact h.1, by rw [k.2.2.2.2 a e]; exact h.2.1, h.2.2.1.sm k, h.2.2.2.1.sm k, h.2.2.2.2.sm k⟩
theorem ce_LC.sm {s a : Nat} {σ σ1 : ce_S} (h : ce_LC σ a) (k : ce_sm s σ σ1) (e : s < a ∨ a + 20 ≤ s) : ce_LC σ1 a := by
  obtain ⟨h1, h2, h3, ⟨a1, a2, a3, a4, a5, a6, a7⟩, ⟨t1, t2, t3, t4⟩, h6⟩ := h
  refine ⟨by rw [k.2.1]; exact h1, by rw [k.2.2.2.2 a (by omega)]; exact h2, by rw [k.2.2.2.2 a (by omega)]; exact h3, ⟨a1.sm k, a2.sm k, a3.sm k, a4.sm k, a5.sm k, a6.sm k, a7.sm k⟩, ⟨t1.sm k (by omega), t2.sm k (by omega), t3.sm k (by omega), t4.sm k (by omega)⟩, h6.sm k (by omega)⟩
/-- the history's object at h, its array behind it -/
def ce_LS (σ : ce_S) (h : Nat) : Prop := ce_kd σ h = 1 + 1 ∧ ce_gr σ h 0 = some (h + 1) ∧ ce_LA σ 13 (h + 1) 14
theorem ce_LS.sm {h : Nat} {σ σ1 : ce_S} (H : ce_LS σ h) (k : ce_sm (h + 1) σ σ1) : ce_LS σ1 h := ⟨by rw [k.2.1]; exact H.1, by rw [k.2.2.2.2 h (by omega)]; exact H.2.1, H.2.2.sm k⟩
/-- where its clubs lie -/
def ce_bk (h : Nat) (b : Nat → Nat) : Prop := (∀ i, i < 14 → ∃ k, k < 14 ∧ b i = h + 2 + 20 * k) ∧ ∀ i j, i < 14 → j < 14 → i ≠ j → b i ≠ b j
theorem ce_bk.far {h : Nat} {b : Nat → Nat} (H : ce_bk h b) {i j : Nat} (hi : i < 14) (hj : j < 14) (e : i ≠ j) : b i + 20 ≤ b j ∨ b j + 20 ≤ b i := by
  obtain ⟨k, hk, ek⟩ := H.1 i hi
  obtain ⟨l, hl, el⟩ := H.1 j hj
  have := H.2 i j hi hj e
  omega
theorem ce_bk.in {h : Nat} {b : Nat → Nat} (H : ce_bk h b) {i : Nat} (hi : i < 14) : h + 2 ≤ b i ∧ b i + 20 ≤ h + 282 := by
  obtain ⟨k, hk, ek⟩ := H.1 i hi
  omega
def ce_LH (σ : ce_S) (h : Nat) (b : Nat → Nat) : Prop := ce_LS σ h ∧ (∀ i, i < 14 → ce_gr σ (h + 1) i = some (b i)) ∧ (∀ i, i < 14 → ce_LC σ (b i)) ∧ ce_bk h b
/-- the oldest is forgotten -/
def ce_ro (b : Nat → Nat) (i : Nat) : Nat := if i = 13 then b 0 else b (i + 1)
theorem ce_bk.ro {h : Nat} {b : Nat → Nat} (H : ce_bk h b) : ce_bk h (ce_ro b) := by
  refine ⟨fun i hi => ?_, fun i j hi hj e => ?_⟩
  · unfold ce_ro
    split
    · exact H.1 0 (by omega)
    · exact H.1 (i + 1) (by omega)
  · unfold ce_ro
    split
    · split
      · omega
      · exact H.2 0 (j + 1) (by omega) (by omega) (by omega)
    · split
      · exact H.2 (i + 1) 0 (by omega) (by omega) (by omega)
      · exact H.2 (i + 1) (j + 1) (by omega) (by omega) (by omega)
/-- the remembered clubs, the oldest first -/
def ce_rH (g : ce_D) (h : Nat) (b : Nat → Nat) (n : Nat) (KH : Nat → ce_V) (OH : Nat → Nat → Int32) : Prop := n ≤ 14 ∧ g h 1 = nI n ∧ ∀ i, i < n → ce_rC g (b i) (KH i) (OH i)
/-- one more is remembered -/
def kh_n (n : Nat) : Nat := if n = 14 then 14 else n + 1
def kh_f {α : Type} (n : Nat) (f : Nat → α) (x : α) : Nat → α := fun i => if n = 14 then (if i = 13 then x else f (i + 1)) else (if i = n then x else f i)
end CEO
section CEP
theorem ce_rC.fr {g g1 : ce_D} {c lo hi : Nat} {K : ce_V} {O : Nat → Int32} (h : ce_rC g c K O) (hf : ce_fr lo hi g g1) (e : hi ≤ c ∨ c + 20 ≤ lo) : ce_rC g1 c K O := h.kp (fun i hi => hf _ (by omega))
theorem rH_add {g g1 g2 : ce_D} {h n : Nat} {b : Nat → Nat} {KH : Nat → ce_V} {OH : Nat → Nat → Int32} {K : ce_V} {O : Nat → Int32} (hB : ce_bk h b) (hr : ce_rH g h b n KH OH) (hn : n ≠ 14) (h1 : ce_rC g1 (b n) K O) (hf : ce_fr (b n) (b n + 20) g g1) (e2 : ce_up g1 h 1 (nI (n + 1)) = g2) : ce_rH g2 h b (kh_n n) (kh_f n KH K) (kh_f n OH O) ∧ ce_fr h (h + 282) g g2 := by
  obtain ⟨r1, r2, r3⟩ := hr
  have hin := hB.in (i := n) (by omega)
  subst e2
  refine ⟨⟨?_, ?_, fun i hi => ?_⟩, fun a ha => ?_⟩
  · unfold kh_n; rw [if_neg hn]; omega
  · rw [ce_up_at]; unfold kh_n; rw [if_neg hn]
  · unfold kh_n at hi
    rw [if_neg hn] at hi
    unfold kh_f
    rw [if_neg hn, if_neg hn]
    have hi2 := hB.in (i := i) (by omega)
    by_cases e : i = n
    · subst e
      rw [if_pos rfl, if_pos rfl]
      exact h1.kp (fun j hj => ce_up_ne _ _ _ (by omega))
    · rw [if_neg e, if_neg e]
      have hf2 := hB.far (i := i) (j := n) (by omega) (by omega) e
      exact ((r3 i (by omega)).fr hf (by omega)).kp (fun j hj => ce_up_ne _ _ _ (by omega))
  · rw [ce_up_ne _ _ _ (by omega)]
    exact hf a (by omega)
theorem rH_old {g g1 : ce_D} {h : Nat} {b : Nat → Nat} {KH : Nat → ce_V} {OH : Nat → Nat → Int32} (hB : ce_bk h b) (hr : ce_rH g h b 14 KH OH) (e : g1 = ce_up g h 1 (nI 13)) : ce_rH g1 h (ce_ro b) 13 (fun i => KH (i + 1)) (fun i => OH (i + 1)) := by
  obtain ⟨r1, r2, r3⟩ := hr
  subst e
  refine ⟨by omega, ce_up_at _ _ _ _, fun i hi => ?_⟩
  have hi2 := hB.in (i := i + 1) (by omega)
  unfold ce_ro
  rw [if_neg (by omega)]
  exact (r3 (i + 1) (by omega)).kp (fun j hj => ce_up_ne _ _ _ (by omega))
theorem kh_f_13 {α : Type} (f : Nat → α) (x : α) : kh_f 13 (fun i => f (i + 1)) x = kh_f 14 f x := by
  funext i
  unfold kh_f
  rw [if_neg (by decide), if_pos rfl]
theorem LH_ro {σ σ1 : ce_S} {h : Nat} {b : Nat → Nat} (H : ce_LH σ h b) (k : ce_sm (h + 1) σ σ1) (r : ∀ j, j < 14 → ce_gr σ1 (h + 1) j = some (ce_ro b j)) : ce_LH σ1 h (ce_ro b) := by
  refine ⟨H.1.sm k, r, fun i hi => ?_, H.2.2.2.ro⟩
  unfold ce_ro
  split
  · have := H.2.2.2.in (i := 0) (by omega)
    exact (H.2.2.1 0 (by omega)).sm k (by omega)
  · have := H.2.2.2.in (i := i + 1) (by omega)
    exact (H.2.2.1 (i + 1) (by omega)).sm k (by omega)
end CEP
