section CEW
theorem rX_gen {g g1 : ce_D} {a n : Nat} {b : Nat → Nat} {S : ks_S} {K : ce_V} {O : Nat → Int32} {KH : Nat → ce_V} {OH : Nat → Nat → Int32} (hr : ce_rX g a b S) (hC : ce_rC g1 (a + 1) K O) (hH : ce_rH g1 (a + 63) b n KH OH) (hq : ∀ x, ((a + 21 ≤ x ∧ x < a + 63) ∨ (a + 366 ≤ x ∧ x < a + 411)) → g1 x = g x) : ce_rX g1 a b ((K, O), (n, KH, OH), S.2.2) := by
  obtain ⟨r1, r2, ⟨r3, r4⟩, r5, r6, r7, r8⟩ := hr
  refine ⟨hC, hH, ⟨fun s hs => ?_, fun s hs hF => ?_⟩, r5, ?_, fun i hi => ?_, ?_⟩
  · rw [hq _ (by omega)]; exact r3 s hs
  · exact (r4 s hs hF).kp (fun i hi => hq _ (by omega))
  · rw [hq _ (by omega)]; exact r6
  · rw [hq _ (by omega)]; exact r7 i hi
  · exact r8.kp (fun i hi => hq _ (by omega))
/-- only the rehearsal's copy changed -/
theorem rX_reh {g g1 : ce_D} {a : Nat} {b : Nat → Nat} {S : ks_S} (hr : ce_rX g a b S) (hb : ce_bk (a + 63) b) (hf : ce_fr (a + 345 + 1) (a + 345 + 1 + 20) g g1) : ce_rX g1 a b S := by
  have hH := hr.2.1
  exact rX_gen hr (hr.1.fr hf (by omega)) ⟨hH.1, by rw [hf _ (by omega)]; exact hH.2.1, fun i hi => by
    have h14 : sn S ≤ 14 := hH.1
    have hi2 : i < sn S := hi
    have := hb.in (i := i) (by omega)
    exact (hH.2.2 i hi).fr hf (by omega)⟩ (fun x hx => hf x (by omega))
def ks_undo (S : ks_S) : ks_S := ((sKH S (sn S - 1), sOH S (sn S - 1)), (sn S - 1, sKH S, sOH S), S.2.2)
theorem ks_ok.undo {S : ks_S} (h : ks_ok S) (hn : 0 < sn S) : ks_ok (ks_undo S) := ⟨h.2.1 _ (by omega), fun i hi => h.2.1 i (by have : i < sn S - 1 := hi; omega), h.2.2.1, h.2.2.2⟩
/-- a slot was filled -/
def ks_save (S : ks_S) (s : Nat) : ks_S := (S.1, S.2.1, ((fun i => if i = s then true else sF S i), (fun i => if i = s then sK S else sKS S i), (fun i => if i = s then sO S else sOS S i)), S.2.2.2)
theorem ks_ok.save {S : ks_S} (h : ks_ok S) (s : Nat) : ks_ok (ks_save S s) := by
  refine ⟨h.1, h.2.1, fun i hi hF => ?_, h.2.2.2⟩
  show kv_cl (if i = s then sK S else sKS S i)
  have hF2 : (if i = s then true else sF S i) = true := hF
  split
  · exact h.1
  · rename_i e
    rw [if_neg e] at hF2
    exact h.2.2.1 i hi hF2
theorem rX_save {g g1 g2 : ce_D} {a s : Nat} {b : Nat → Nat} {S : ks_S} (hr : ce_rX g a b S) (hb : ce_bk (a + 63) b) (hs : s < 2) (h1 : ce_rC g1 (a + 370 + 20 * s) (sK S) (sO S)) (hf : ce_fr (a + 370 + 20 * s) (a + 370 + 20 * s + 20) g g1) (e : ce_up g1 (a + 410) s 1 = g2) : ce_rX g2 a b (ks_save S s) ∧ ce_fr a (a + 411) g g2 := by
  obtain ⟨r1, r2, ⟨r3, r4⟩, r5, r6, r7, r8⟩ := hr
  have hq : ∀ x, x ≠ a + 410 → (x < a + 370 + 20 * s ∨ a + 370 + 20 * s + 20 ≤ x) → g2 x = g x := fun x h1 h2 => by
    rw [← e, ce_up_ne _ _ _ h1]; exact hf x h2
  refine ⟨⟨r1.kp (fun i hi => hq _ (by omega) (by omega)), ⟨r2.1, ?_, fun i hi => ?_⟩, ⟨fun t ht => ?_, fun t ht hF => ?_⟩, r5, ?_, fun i hi => ?_, ?_⟩, fun x hx => hq x (by omega) (by omega)⟩
  · rw [hq _ (by omega) (by omega)]; exact r2.2.1
  · have h14 := r2.1
    have hi2 : i < sn S := hi
    have := hb.in (i := i) (by omega)
    exact (r2.2.2 i hi).kp (fun j hj => hq _ (by omega) (by omega))
  · show g2 (a + 410) t = if (if t = s then true else sF S t) = true then 1 else 0
    rw [← e, ce_up_eq]
    unfold upd
    by_cases q : t = s
    · rw [if_pos q, if_pos q, if_pos rfl]
    · rw [if_neg q, if_neg q, hf _ (by omega)]; exact r3 t ht
  · show ce_rC g2 (a + 370 + 20 * t) (if t = s then sK S else sKS S t) (if t = s then sO S else sOS S t)
    have hF2 : (if t = s then true else sF S t) = true := hF
    by_cases q : t = s
    · rw [if_pos q, if_pos q, q]
      exact h1.kp (fun j hj => by rw [← e]; exact ce_up_ne _ _ _ (by omega))
    · rw [if_neg q] at hF2
      rw [if_neg q, if_neg q]
      exact (r4 t ht hF2).kp (fun j hj => hq _ (by omega) (by omega))
  · rw [hq _ (by omega) (by omega)]; exact r6
  · rw [hq _ (by omega) (by omega)]; exact r7 i hi
  · exact r8.kp (fun j hj => hq _ (by omega) (by omega))
/-- the club of a slot, nothing remembered -/
def ks_rest (S : ks_S) (s : Nat) : ks_S := ((sKS S s, sOS S s), (0, sKH S, sOH S), S.2.2)
theorem ks_ok.rest {S : ks_S} (h : ks_ok S) {s : Nat} (hs : s < 2) (hF : sF S s = true) : ks_ok (ks_rest S s) := ⟨h.2.2.1 s hs hF, fun i hi => by have : i < 0 := hi; omega, h.2.2.1, h.2.2.2⟩
end CEW
