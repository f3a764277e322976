section CED
variable {ρ : Room} {Y : ce_Y} {kc ks pc : Nat} {L : List (Option Value)} {st : List Value} {σ : ce_S} {g : ce_D} {Q : Option Value → ce_S → ce_D → Prop} {X : String → ce_S → ce_D → Prop}
theorem ce_ix {i : Int32} {n len : Nat} (hi : i = nI n) (hn : n < len) (hb : len ≤ 100000) : vp_in i len ∧ i.toNatClampNeg = n := by
  have h : n < 2 ^ 31 := by omega
  subst hi
  exact ⟨vp_in_nI hn (by omega), nI_clamp h⟩
theorem ce_tyK {G : ce_G} {s : State} (hK : ce_K G s) (k : Nat) (q : ClassId × FieldType) (h : (ce_tys G)[k]? = some q) : ArrOfT s q.1 q.2 ∧ va_RA s q.1 q.2 := hK.1.2 k q h
theorem ce_iald {a n len : Nat} {i : Int32} (d : decode Y.2.1 pc = .ok (.iaload, 1)) (hk : ce_kd σ a = 10) (hi : i = nI n) (hln : ce_ln σ a = len) (hn : n < len) (hb : len ≤ 100000) (kk : ce_WP ρ Y kc ks (pc + 1) L (.int (g a n) :: st) σ g Q X) : ce_WP ρ Y kc ks pc L (.int i :: .ref a :: st) σ g Q X := by
  intro G A p e s m args below meth c H locs ls C I hl
  have kk := kk G A p e s m args below meth c H locs ls C I hl
  obtain ⟨h1, h2⟩ := ce_ix hi hn hb
  refine W.iald (v := .int (g a n)) C.1 C.2.1 ((I.1 a (by omega)).2.2.1 hk) ((ce_tyK C.2.2.2.2.2.2.2.1 0 _ rfl).1 _ _) (fun q => by cases q) (by rw [arrV_size, hln]; exact h1) ?_ rfl rfl d kk
  rw [h2, hln, arrV_read _ _ hn]
theorem ce_cald {a n len : Nat} {i : Int32} (d : decode Y.2.1 pc = .ok (.caload, 1)) (hk : ce_kd σ a = 11) (hi : i = nI n) (hln : ce_ln σ a = len) (hn : n < len) (hb : len ≤ 100000) (kk : ce_WP ρ Y kc ks (pc + 1) L (.int (g a n) :: st) σ g Q X) : ce_WP ρ Y kc ks pc L (.int i :: .ref a :: st) σ g Q X := by
  intro G A p e s m args below meth c H locs ls C I hl
  have kk := kk G A p e s m args below meth c H locs ls C I hl
  obtain ⟨h1, h2⟩ := ce_ix hi hn hb
  refine W.cald (v := .int (g a n)) C.1 C.2.1 ((I.1 a (by omega)).2.2.2.1 hk) ((ce_tyK C.2.2.2.2.2.2.2.1 1 _ rfl).1 _ _) (fun q => by cases q) (by rw [arrV_size, hln]; exact h1) ?_ rfl rfl d kk
  rw [h2, hln, arrV_read _ _ hn]
theorem ce_zald {a n len : Nat} {i : Int32} (d : decode Y.2.1 pc = .ok (.baload, 1)) (hk : ce_kd σ a = 12) (hi : i = nI n) (hln : ce_ln σ a = len) (hn : n < len) (hb : len ≤ 100000) (kk : ce_WP ρ Y kc ks (pc + 1) L (.int (g a n) :: st) σ g Q X) : ce_WP ρ Y kc ks pc L (.int i :: .ref a :: st) σ g Q X := by
  intro G A p e s m args below meth c H locs ls C I hl
  have kk := kk G A p e s m args below meth c H locs ls C I hl
  obtain ⟨h1, h2⟩ := ce_ix hi hn hb
  refine W.zald (v := .int (g a n)) C.1 C.2.1 ((I.1 a (by omega)).2.2.2.2.1 hk) ((ce_tyK C.2.2.2.2.2.2.2.1 2 _ rfl).1 _ _) (fun q => by cases q) (by rw [arrV_size, hln]; exact h1) ?_ rfl rfl d kk
  rw [h2, hln, arrV_read _ _ hn]
theorem ce_aald {a n len b : Nat} {i : Int32} (d : decode Y.2.1 pc = .ok (.aaload, 1)) (hk : ce_kd σ a = 13) (hi : i = nI n) (hln : ce_ln σ a = len) (hn : n < len) (hb : len ≤ 100000) (hv : ce_gr σ a n = some b) (kk : ce_WP ρ Y kc ks (pc + 1) L (.ref b :: st) σ g Q X) : ce_WP ρ Y kc ks pc L (.int i :: .ref a :: st) σ g Q X := by
  intro G A p e s m args below meth c H locs ls C I hl
  have kk := kk G A p e s m args below meth c H locs ls C I hl
  obtain ⟨h1, h2⟩ := ce_ix hi hn hb
  refine W.aald (v := .ref b) (ty := .object "CellarClub$Club") C.1 C.2.1 ((I.1 a (by omega)).2.2.2.2.2.1 hk) ((ce_tyK C.2.2.2.2.2.2.2.1 3 _ rfl).1 _ _) rfl (fun q => by cases q) (by rw [arrV_size, hln]; exact h1) ?_ rfl rfl d kk
  rw [h2, hln, arrV_read _ _ hn, hv]; rfl
theorem ce_lald {a n len : Nat} {i : Int32} (d : decode Y.2.1 pc = .ok (.laload, 1)) (hk : ce_kd σ a = 14) (hi : i = nI n) (hln : ce_ln σ a = len) (hn : n < len) (hb : len ≤ 100000) (kk : ce_WP ρ Y kc ks (pc + 1) L (.long (ce_gl σ a n) :: st) σ g Q X) : ce_WP ρ Y kc ks pc L (.int i :: .ref a :: st) σ g Q X := by
  intro G A p e s m args below meth c H locs ls C I hl
  have kk := kk G A p e s m args below meth c H locs ls C I hl
  obtain ⟨h1, h2⟩ := ce_ix hi hn hb
  refine W.lald (v := .long (ce_gl σ a n)) C.1 C.2.1 ((I.1 a (by omega)).2.2.2.2.2.2 hk) ((ce_tyK C.2.2.2.2.2.2.2.1 4 _ rfl).1 _ _) (fun q => by cases q) (by rw [arrV_size, hln]; exact h1) ?_ rfl rfl d kk
  rw [h2, hln, arrV_read _ _ hn]
theorem ce_alen {a len : Nat} (d : decode Y.2.1 pc = .ok (.arraylength, 1)) (hk : ce_kd σ a = 10 ∨ ce_kd σ a = 12) (hln : ce_ln σ a = len) (kk : ce_WP ρ Y kc ks (pc + 1) L (.int (nI len) :: st) σ g Q X) : ce_WP ρ Y kc ks pc L (.ref a :: st) σ g Q X := by
  intro G A p e s m args below meth c H locs ls C I hl
  have kk := kk G A p e s m args below meth c H locs ls C I hl
  have hc := (I.1 a (by omega)).2
  rcases hk with hk | hk
  · exact W.alen (n := nI len) C.1 C.2.1 (hc.2.1 hk) ((ce_tyK C.2.2.2.2.2.2.2.1 0 _ rfl).1 _ _) (by rw [arrV_size, hln]; rfl) rfl rfl d kk
  · exact W.alen (n := nI len) C.1 C.2.1 (hc.2.2.2.1 hk) ((ce_tyK C.2.2.2.2.2.2.2.1 2 _ rfl).1 _ _) (by rw [arrV_size, hln]; rfl) rfl rfl d kk
theorem ce_updI (g : ce_D) (a n : Nat) (x : Int32) : updV (fun j => .int (g a j)) n (.int x) = fun j => Value.int (ce_up g a n x a j) := by
  funext j
  rw [ce_up_eq]
  unfold updV upd
  by_cases hj : j = n <;> simp [hj]
theorem ce_upL_eq (σ : ce_S) (a k : Nat) (x : Int64) (j : Nat) : ce_gl (ce_upL σ a k x) a j = if j = k then x else ce_gl σ a j := by
  show (if a = a then (fun j => if j = k then x else ce_gl σ a j) else ce_gl σ a) j = _
  rw [if_pos rfl]
theorem ce_iast {a n len : Nat} {i x : Int32} (d : decode Y.2.1 pc = .ok (.iastore, 1)) (hk : ce_kd σ a = 10) (hi : i = nI n) (hln : ce_ln σ a = len) (hn : n < len) (hb : len ≤ 100000) (kk : ce_WP ρ Y kc ks (pc + 1) L st σ (ce_up g a n x) Q X) : ce_WP ρ Y kc ks pc L (.int x :: .int i :: .ref a :: st) σ g Q X := by
  intro G A p e s m args below meth c H locs ls C I hl
  have kk := fun H1 locs1 I1 => kk G A p e s m args below meth c H1 locs1 ls C I1 hl
  obtain ⟨h1, h2⟩ := ce_ix hi hn hb
  refine W.iast C.1 C.2.1 ((I.1 a (by omega)).2.2.1 hk) ((ce_tyK C.2.2.2.2.2.2.2.1 0 _ rfl).1 _ _) (fun q => by cases q) (by rw [arrV_size, hln]; exact h1) rfl rfl d fun H1 e1 z oq => ?_
  refine kk H1 _ (ce_I_put I (by omega) z oq rfl rfl rfl (fun _ _ => rfl) (fun _ _ => rfl) (fun b hb => ce_up_ne g n x hb) ?_)
  rw [h2, arrV_store, ce_updI] at e1
  exact ⟨fun ci r h9 hr => by have := (List.getElem?_eq_some_iff.mp hr).1; have : ci < 9 := this; omega, fun _ => e1, fun h9 => by omega, fun h9 => by omega, fun h9 => by omega, fun h9 => by omega⟩
theorem ce_cast {a n len : Nat} {i x : Int32} (d : decode Y.2.1 pc = .ok (.castore, 1)) (hk : ce_kd σ a = 11) (hi : i = nI n) (hln : ce_ln σ a = len) (hn : n < len) (hb : len ≤ 100000) (hx : narrow .char (.int x) = .int x) (kk : ce_WP ρ Y kc ks (pc + 1) L st σ (ce_up g a n x) Q X) : ce_WP ρ Y kc ks pc L (.int x :: .int i :: .ref a :: st) σ g Q X := by
  intro G A p e s m args below meth c H locs ls C I hl
  have kk := fun H1 locs1 I1 => kk G A p e s m args below meth c H1 locs1 ls C I1 hl
  obtain ⟨h1, h2⟩ := ce_ix hi hn hb
  refine W.cast C.1 C.2.1 ((I.1 a (by omega)).2.2.2.1 hk) ((ce_tyK C.2.2.2.2.2.2.2.1 1 _ rfl).1 _ _) (fun q => by cases q) (by rw [arrV_size, hln]; exact h1) rfl rfl d fun H1 e1 z oq => ?_
  refine kk H1 _ (ce_I_put I (by omega) z oq rfl rfl rfl (fun _ _ => rfl) (fun _ _ => rfl) (fun b hb => ce_up_ne g n x hb) ?_)
  rw [h2, hx, arrV_store, ce_updI] at e1
  exact ⟨fun ci r h9 hr => by have := (List.getElem?_eq_some_iff.mp hr).1; have : ci < 9 := this; omega, fun h9 => by omega, fun _ => e1, fun h9 => by omega, fun h9 => by omega, fun h9 => by omega⟩
theorem ce_zast {a n len : Nat} {i x : Int32} (d : decode Y.2.1 pc = .ok (.bastore, 1)) (hk : ce_kd σ a = 12) (hi : i = nI n) (hln : ce_ln σ a = len) (hn : n < len) (hb : len ≤ 100000) (hx : narrow .boolean (.int x) = .int x) (kk : ce_WP ρ Y kc ks (pc + 1) L st σ (ce_up g a n x) Q X) : ce_WP ρ Y kc ks pc L (.int x :: .int i :: .ref a :: st) σ g Q X := by
  intro G A p e s m args below meth c H locs ls C I hl
  have kk := fun H1 locs1 I1 => kk G A p e s m args below meth c H1 locs1 ls C I1 hl
  obtain ⟨h1, h2⟩ := ce_ix hi hn hb
  refine W.zast C.1 C.2.1 ((I.1 a (by omega)).2.2.2.2.1 hk) ((ce_tyK C.2.2.2.2.2.2.2.1 2 _ rfl).1 _ _) (fun q => by cases q) (by rw [arrV_size, hln]; exact h1) rfl rfl d fun H1 e1 z oq => ?_
  refine kk H1 _ (ce_I_put I (by omega) z oq rfl rfl rfl (fun _ _ => rfl) (fun _ _ => rfl) (fun b hb => ce_up_ne g n x hb) ?_)
  rw [h2, hx, arrV_store, ce_updI] at e1
  exact ⟨fun ci r h9 hr => by have := (List.getElem?_eq_some_iff.mp hr).1; have : ci < 9 := this; omega, fun h9 => by omega, fun h9 => by omega, fun _ => e1, fun h9 => by omega, fun h9 => by omega⟩
theorem ce_last {a n len : Nat} {i : Int32} {x : Int64} (d : decode Y.2.1 pc = .ok (.lastore, 1)) (hk : ce_kd σ a = 14) (hi : i = nI n) (hln : ce_ln σ a = len) (hn : n < len) (hb : len ≤ 100000) (kk : ce_WP ρ Y kc ks (pc + 1) L st (ce_upL σ a n x) g Q X) : ce_WP ρ Y kc ks pc L (.long x :: .int i :: .ref a :: st) σ g Q X := by
  intro G A p e s m args below meth c H locs ls C I hl
  have kk := fun H1 locs1 I1 => kk G A p e s m args below meth c H1 locs1 ls C I1 hl
  obtain ⟨h1, h2⟩ := ce_ix hi hn hb
  refine W.last C.1 C.2.1 ((I.1 a (by omega)).2.2.2.2.2.2 hk) ((ce_tyK C.2.2.2.2.2.2.2.1 4 _ rfl).1 _ _) (fun q => by cases q) (by rw [arrV_size, hln]; exact h1) rfl rfl d fun H1 e1 z oq => ?_
  refine kk H1 _ (ce_I_put I (by omega) z oq rfl rfl rfl (fun _ _ => rfl) (fun b hb => if_neg hb) (fun _ _ => rfl) ?_)
  have e2 : updV (fun j => .long (ce_gl σ a j)) n (.long x) = fun j => Value.long (ce_gl (ce_upL σ a n x) a j) := by
    funext j
    rw [ce_upL_eq]
    unfold updV
    by_cases hj : j = n <;> simp [hj]
  rw [h2, arrV_store, e2] at e1
  exact ⟨fun ci r h9 hr => by have := (List.getElem?_eq_some_iff.mp hr).1; have : ci < 9 := this; have h8 : ce_kd σ a = ci + 1 := h9; omega, fun h9 => by have h8 : ce_kd σ a = 10 := h9; omega, fun h9 => by have h8 : ce_kd σ a = 11 := h9; omega, fun h9 => by have h8 : ce_kd σ a = 12 := h9; omega, fun h9 => by have h8 : ce_kd σ a = 13 := h9; omega, fun _ => e1⟩
theorem ce_aast {a n len b : Nat} {i : Int32} (d : decode Y.2.1 pc = .ok (.aastore, 1)) (hk : ce_kd σ a = 13) (hkb : ce_kd σ b = 1) (hi : i = nI n) (hln : ce_ln σ a = len) (hn : n < len) (hb : len ≤ 100000) (kk : ce_WP ρ Y kc ks (pc + 1) L st (ce_upR σ a n (some b)) g Q X) : ce_WP ρ Y kc ks pc L (.ref b :: .int i :: .ref a :: st) σ g Q X := by
  intro G A p e s m args below meth c H locs ls C I hl
  have kk := fun H1 locs1 I1 => kk G A p e s m args below meth c H1 locs1 ls C I1 hl
  obtain ⟨h1, h2⟩ := ce_ix hi hn hb
  obtain ⟨cellV, g1, g2, g3, -⟩ := (I.1 b (by omega)).2.1 0 _ (by omega) rfl
  have hcls := (C.2.2.2.2.2.2.2.1.1.1 0 _ rfl).2
  obtain ⟨kA, comp, k1, k2, k3, -⟩ := (ce_tyK C.2.2.2.2.2.2.2.1 3 _ rfl).2
  have hcomp : comp = G.2.1.1 0 := Option.some.inj (k3.symm.trans hcls.1)
  subst hcomp
  obtain ⟨kC, hkC, -⟩ := id hcls.2
  refine W.aast C.1 C.2.1 ((I.1 a (by omega)).2.2.2.2.2.1 hk) (fun q h => by cases h) (fun h => by cases h) k1 k2 rfl hkC ⟨fun q => h1 (Or.inl q), by rw [arrV_size, hln, h2]; exact hn⟩ g1 (fun q h => by rw [g3] at h; cases h) (by rw [g2]; exact hkC) (by rw [g2]; exact va_assign hcls) rfl rfl d fun H1 e1 z oq => ?_
  refine kk H1 _ (ce_I_put I (by omega) z oq rfl rfl rfl (fun c2 hc2 => if_neg hc2) (fun _ _ => rfl) (fun _ _ => rfl) ?_)
  have e2 : updV (fun j => va_rf (ce_gr σ a j)) n (.ref b) = fun j => va_rf (ce_gr (ce_upR σ a n (some b)) a j) := by
    funext j
    rw [ce_upR_eq]
    unfold updV
    by_cases hj : j = n
    · rw [if_pos hj, if_pos hj]; rfl
    · rw [if_neg hj, if_neg hj]
  rw [h2, arrV_store, e2] at e1
  exact ⟨fun ci r h9 hr => by have := (List.getElem?_eq_some_iff.mp hr).1; have : ci < 9 := this; have h8 : ce_kd σ a = ci + 1 := h9; omega, fun h9 => by have h8 : ce_kd σ a = 10 := h9; omega, fun h9 => by have h8 : ce_kd σ a = 11 := h9; omega, fun h9 => by have h8 : ce_kd σ a = 12 := h9; omega, fun _ => e1, fun h9 => by have h8 : ce_kd σ a = 14 := h9; omega⟩
end CED
