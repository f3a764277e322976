section CEV
/-! the whole object: where it lies, what it holds -/
def ce_LX (σ : ce_S) (a : Nat) (b : Nat → Nat) : Prop :=
  ce_kd σ a = 7 + 1 ∧
  (ce_gr σ a 0 = some (a + 1) ∧ ce_gr σ a 1 = some (a + 21) ∧ ce_gr σ a 2 = some (a + 63) ∧ ce_gr σ a 3 = some (a + 345) ∧ ce_gr σ a 4 = some (a + 366) ∧ ce_gr σ a 5 = some (a + 369) ∧ ce_gr σ a 6 = some (a + 410)) ∧
  ce_LC σ (a + 1) ∧ ce_LH σ (a + 63) b ∧ ce_LR σ (a + 345) ∧
  (ce_kd σ (a + 21) = 6 + 1 ∧ (ce_gr σ (a + 21) 0 = some (a + 22) ∧ ce_gr σ (a + 21) 3 = some (a + 23) ∧ ce_gr σ (a + 21) 4 = some (a + 43)) ∧ ce_LA σ 11 (a + 22) 120 ∧ ce_LC σ (a + 23) ∧ ce_LC σ (a + 43)) ∧
  (ce_kd σ (a + 366) = 2 + 1 ∧ (ce_gr σ (a + 366) 0 = some (a + 367) ∧ ce_gr σ (a + 366) 1 = some (a + 368)) ∧ ce_LA σ 10 (a + 367) 256 ∧ ce_LA σ 12 (a + 368) 256) ∧
  (ce_LA σ 13 (a + 369) 2 ∧ (∀ s, s < 2 → ce_gr σ (a + 369) s = some (a + 370 + 20 * s)) ∧ (∀ s, s < 2 → ce_LC σ (a + 370 + 20 * s)) ∧ ce_LA σ 12 (a + 410) 2)
theorem ce_LR.sm {s r : Nat} {σ σ1 : ce_S} (h : ce_LR σ r) (k : ce_sm s σ σ1) (e : s < r ∨ r + 21 ≤ s) : ce_LR σ1 r := ⟨by rw [k.2.1]; exact h.1, by rw [k.2.2.2.2 r (by omega)]; exact h.2.1, h.2.2.sm k (by omega)⟩
theorem ce_LX.sm {a : Nat} {b b1 : Nat → Nat} {σ σ1 : ce_S} (h : ce_LX σ a b) (k : ce_sm (a + 63 + 1) σ σ1) (hH : ce_LH σ1 (a + 63) b1) : ce_LX σ1 a b1 := by
  obtain ⟨h1, ⟨r0, r1, r2, r3, r4, r5, r6⟩, hC, _, hR, ⟨t1, ⟨t2, t3, t4⟩, t5, t6, t7⟩, ⟨p1, ⟨p2, p3⟩, p4, p5⟩, ⟨s1, s2, s3, s4⟩⟩ := h
  have e := k.2.2.2.2 a (by omega)
  have e1 := k.2.2.2.2 (a + 21) (by omega)
  have e2 := k.2.2.2.2 (a + 366) (by omega)
  have e3 := k.2.2.2.2 (a + 369) (by omega)
  unfold ce_LX
  rw [k.2.1, e, e1, e2, e3]
  exact ⟨h1, ⟨r0, r1, r2, r3, r4, r5, r6⟩, hC.sm k (by omega), hH, hR.sm k (by omega), ⟨t1, ⟨t2, t3, t4⟩, t5.sm k, t6.sm k (by omega), t7.sm k (by omega)⟩, ⟨p1, ⟨p2, p3⟩, p4.sm k, p5.sm k⟩, s1.sm k, s2, fun s hs => (s3 s hs).sm k (by omega), s4.sm k⟩
/-- what it holds: the club; how much is remembered, and what; which slots are filled, and with what; the text -/
abbrev ks_S : Type := (ce_V × (Nat → Int32)) × (Nat × (Nat → ce_V) × (Nat → Nat → Int32)) × ((Nat → Bool) × (Nat → ce_V) × (Nat → Nat → Int32)) × (Nat × (Nat → Nat))
abbrev sK (S : ks_S) : ce_V := S.1.1
abbrev sO (S : ks_S) : Nat → Int32 := S.1.2
abbrev sn (S : ks_S) : Nat := S.2.1.1
abbrev sKH (S : ks_S) : Nat → ce_V := S.2.1.2.1
abbrev sOH (S : ks_S) : Nat → Nat → Int32 := S.2.1.2.2
abbrev sF (S : ks_S) : Nat → Bool := S.2.2.1.1
abbrev sKS (S : ks_S) : Nat → ce_V := S.2.2.1.2.1
abbrev sOS (S : ks_S) : Nat → Nat → Int32 := S.2.2.1.2.2
abbrev sl (S : ks_S) : Nat := S.2.2.2.1
abbrev sT (S : ks_S) : Nat → Nat := S.2.2.2.2
def kv_0 : ce_V := fun _ _ => 0
def ce_rX (g : ce_D) (a : Nat) (b : Nat → Nat) (S : ks_S) : Prop :=
  ce_rC g (a + 1) (sK S) (sO S) ∧ ce_rH g (a + 63) b (sn S) (sKH S) (sOH S) ∧
  ((∀ s, s < 2 → g (a + 410) s = if sF S s = true then 1 else 0) ∧ ∀ s, s < 2 → sF S s = true → ce_rC g (a + 370 + 20 * s) (sKS S s) (sOS S s)) ∧
  (sl S ≤ 120 ∧ g (a + 21) 1 = nI (sl S) ∧ (∀ i, i < sl S → g (a + 22) i = nI (sT S i)) ∧ ce_rC g (a + 43) kv_0 (fun _ => 0))
def ks_ok (S : ks_S) : Prop := kv_cl (sK S) ∧ (∀ i, i < sn S → kv_cl (sKH S i)) ∧ (∀ s, s < 2 → sF S s = true → kv_cl (sKS S s)) ∧ ∀ i, i < sl S → sT S i < 256
/-- an action: the club before it is remembered -/
def ks_act (S : ks_S) (K : ce_V) (O : Nat → Int32) : ks_S := ((K, O), (kh_n (sn S), kh_f (sn S) (sKH S) (sK S), kh_f (sn S) (sOH S) (sO S)), S.2.2)
theorem ks_ok.act {S : ks_S} (h : ks_ok S) (hn : sn S ≤ 14) {K : ce_V} {O : Nat → Int32} (hk : kv_cl K) : ks_ok (ks_act S K O) := by
  obtain ⟨h1, h2, h3, h4⟩ := h
  refine ⟨hk, fun i hi => ?_, h3, h4⟩
  show kv_cl (kh_f (sn S) (sKH S) (sK S) i)
  have hi2 : i < kh_n (sn S) := hi
  unfold kh_n at hi2
  unfold kh_f
  split
  · rename_i e
    rw [if_pos e] at hi2
    split
    · exact h1
    · exact h2 _ (by omega)
  · rename_i e
    rw [if_neg e] at hi2
    split
    · exact h1
    · exact h2 _ (by omega)
theorem rX_act {g g1 g2 : ce_D} {a : Nat} {b b1 : Nat → Nat} {S : ks_S} {K : ce_V} {O : Nat → Int32} (hr : ce_rX g a b S) (hn : ce_rH g1 (a + 63) b1 (kh_n (sn S)) (kh_f (sn S) (sKH S) (sK S)) (kh_f (sn S) (sOH S) (sO S))) (hf : ce_fr (a + 63) (a + 63 + 282) g g1) (hC : ce_rC g2 (a + 1) K O) (hf2 : ce_fr (a + 1) (a + 1 + 20) g1 g2) (hb : ce_bk (a + 63) b1) : ce_rX g2 a b1 (ks_act S K O) ∧ ce_fr a (a + 411) g g2 := by
  obtain ⟨r1, r2, ⟨r3, r4⟩, r5, r6, r7, r8⟩ := hr
  have hq : ∀ x, (x < a + 1 ∨ a + 345 ≤ x ∨ (a + 21 ≤ x ∧ x < a + 63)) → g2 x = g x := fun x hx => (hf2 x (by omega)).trans (hf x (by omega))
  refine ⟨⟨hC, ⟨hn.1, ?_, fun i hi => ?_⟩, ⟨fun s hs => ?_, fun s hs hF => ?_⟩, r5, ?_, fun i hi => ?_, ?_⟩, fun x hx => hq x (by omega)⟩
  · rw [hf2 _ (by omega)]; exact hn.2.1
  · have hi3 : kh_n (sn S) ≤ 14 := hn.1
    have hi2 : i < kh_n (sn S) := hi
    have := hb.in (i := i) (by omega)
    exact (hn.2.2 i hi).fr hf2 (by omega)
  · rw [hq _ (by omega)]; exact r3 s hs
  · exact (r4 s hs hF).kp (fun i hi => hq _ (by omega))
  · rw [hq _ (by omega)]; exact r6
  · rw [hq _ (by omega)]; exact r7 i hi
  · exact r8.kp (fun i hi => hq _ (by omega))
end CEV
