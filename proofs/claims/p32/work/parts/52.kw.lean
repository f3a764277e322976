/-! what the law's own methods do to one object: its content becomes S2, all else stays; the room grows by one number -/
/-- the slow part, but the references of the array of clubs -/
def kl_s (a : Nat) (σ σ1 : ce_S) : Prop := σ.1 ≤ σ1.1 ∧ ce_kd σ1 = ce_kd σ ∧ ce_ln σ1 = ce_ln σ ∧ ce_gl σ1 = ce_gl σ ∧ ∀ x, x ≠ a + 64 → ce_gr σ1 x = ce_gr σ x
theorem kl_s.rf {a : Nat} {σ : ce_S} : kl_s a σ σ := ⟨Nat.le_refl _, rfl, rfl, rfl, fun _ _ => rfl⟩
theorem kl_s.tr {a : Nat} {σ σ1 σ2 : ce_S} (h : kl_s a σ σ1) (k : kl_s a σ1 σ2) : kl_s a σ σ2 := ⟨Nat.le_trans h.1 k.1, k.2.1.trans h.2.1, k.2.2.1.trans h.2.2.1, k.2.2.2.1.trans h.2.2.2.1, fun x hx => (k.2.2.2.2 x hx).trans (h.2.2.2.2 x hx)⟩
/-- the object at a holds S, and all else is as it was at (σ0, g0) -/
def kw (a : Nat) (S : ks_S) (σ0 : ce_S) (g0 : ce_D) (σ : ce_S) (g : ce_D) : Prop := (kl_s a σ0 σ ∧ ce_fr a (a + 411) g0 g) ∧ ∃ b, ce_LX σ a b ∧ ce_rX g a b S
theorem kw.s {a : Nat} {S : ks_S} {σ0 σ : ce_S} {g0 g : ce_D} (h : kw a S σ0 g0 σ g) : kl_s a σ0 σ := h.1.1
theorem kw.f {a : Nat} {S : ks_S} {σ0 σ : ce_S} {g0 g : ce_D} (h : kw a S σ0 g0 σ g) : ce_fr a (a + 411) g0 g := h.1.2
theorem kw.o {a : Nat} {S : ks_S} {σ0 σ : ce_S} {g0 g : ce_D} (h : kw a S σ0 g0 σ g) : ∃ b, ce_LX σ a b ∧ ce_rX g a b S := h.2
theorem kw.of {a : Nat} {S : ks_S} {σ : ce_S} {g : ce_D} (h : ∃ b, ce_LX σ a b ∧ ce_rX g a b S) : kw a S σ g σ g := ⟨⟨kl_s.rf, ce_fr.rf⟩, h⟩
theorem kw.tr {a : Nat} {S S2 : ks_S} {σ0 σ σ1 : ce_S} {g0 g g1 : ce_D} (h : kw a S σ0 g0 σ g) (k : kw a S2 σ g σ1 g1) : kw a S2 σ0 g0 σ1 g1 := ⟨⟨h.s.tr k.s, h.f.tr k.f⟩, k.o⟩
theorem kw.hk {a : Nat} {S : ks_S} {σ0 σ : ce_S} {g0 g : ce_D} (h : kw a S σ0 g0 σ g) : ce_kd σ a = 7 + 1 := by
  obtain ⟨b, h1, h2⟩ := h.o
  exact h1.1
theorem kw.top {a n : Nat} {S : ks_S} {σ0 σ : ce_S} {g0 g : ce_D} (h : kw a S σ0 g0 σ g) (hn : σ.1 ≤ n) : kw a S σ0 g0 (n, σ.2) g := ⟨⟨⟨Nat.le_trans h.s.1 hn, h.s.2.1, h.s.2.2.1, h.s.2.2.2.1, h.s.2.2.2.2⟩, h.f⟩, h.o⟩
/-- content that differs in nothing that an object shows -/
theorem kw.se {a : Nat} {S S2 : ks_S} {σ0 σ : ce_S} {g0 g : ce_D} (h : kw a S σ0 g0 σ g) (e1 : S2.1 = S.1) (n1 : sn S = 0) (n2 : sn S2 = 0) (e2 : S2.2.2 = S.2.2) : kw a S2 σ0 g0 σ g := by
  obtain ⟨h1, b, hX, r1, r2, r3, r4⟩ := h
  refine ⟨h1, b, hX, ?_, ?_, ?_, ?_⟩
  · show ce_rC g (a + 1) S2.1.1 S2.1.2
    rw [e1]; exact r1
  · exact ⟨by rw [n2]; exact Nat.zero_le _, by rw [n2, ← n1]; exact r2.2.1, fun i hi => by rw [n2] at hi; exact absurd hi (Nat.not_lt_zero i)⟩
  · unfold sF sKS sOS; rw [e2]; exact r3
  · unfold sl sT; rw [e2]; exact r4
def ce_jv (r : Int64) (σ : ce_S) (g : ce_D) : Option Value → ce_S → ce_D → Prop := fun v σ' g' => v = some (.long r) ∧ σ' = σ ∧ g' = g
/-- the class answers V and holds S2 then -/
def kl_q (σ : ce_S) (g : ce_D) (a : Nat) (S2 : ks_S) (V : Int32) : Option Value → ce_S → ce_D → Prop := fun v σ1 g1 => v = some (.int V) ∧ kw a S2 σ g σ1 g1
/-- .. and a method of the law: the long V -/
def kq (σ0 : ce_S) (g0 : ce_D) (a : Nat) (S2 : ks_S) (V : Int64) : Option Value → ce_S → ce_D → Prop := fun v σ1 g1 => v = some (.long V) ∧ kw a S2 σ0 g0 σ1 g1
/-- the room of a method of the law, d above its helpers, with n calls that may make something -/
def ce_rl (d n : Nat) : Room := { frames := 10 + d, cells := n, slots := 6 * n, locals := 300 + 40 * d }
theorem ce_CTm {ρ : Room} {Y : ce_Y} {av : List Value} {σ : ce_S} {g : ce_D} {Q Q' : Option Value → ce_S → ce_D → Prop} {X : String → ce_S → ce_D → Prop} (h : ce_CT ρ Y av σ g Q X) (hQ : ∀ v σ' g', Q v σ' g' → Q' v σ' g') : ce_CT ρ Y av σ g Q' X := by
  intro G A
  refine Jvm.Free.MetFree.mono (h G A) (fun _ _ h => h) (fun _ _ _ _ _ h => h) (fun a st o t _ hq => ?_)
  rcases hq with ⟨⟨v, σ', g', q1, q2, q3⟩, q4⟩ | hq
  · exact Or.inl ⟨⟨v, σ', g', q1, hQ _ _ _ q2, q3⟩, q4⟩
  · exact Or.inr hq
theorem ce_CTx {ρ : Room} {Y : ce_Y} {av : List Value} {σ : ce_S} {g : ce_D} {Q : Option Value → ce_S → ce_D → Prop} {X X' : String → ce_S → ce_D → Prop} (h : ce_CT ρ Y av σ g Q X) (hX : ∀ v σ' g', X v σ' g' → X' v σ' g') : ce_CT ρ Y av σ g Q X' := by
  intro G A
  refine Jvm.Free.MetFree.mono (h G A) (fun _ _ h => h) (fun _ _ _ _ _ h => h) (fun a st o t _ hq => ?_)
  rcases hq with hq | ⟨q, h1, E, ce, Lc, ⟨σ', g', q1, q2⟩, h3⟩
  · exact Or.inl hq
  · exact Or.inr ⟨q, h1, E, ce, Lc, ⟨σ', g', hX _ _ _ q1, q2⟩, h3⟩
section KLA
variable {ρ : Room} {Y : ce_Y} {av : List Value} {σ : ce_S} {g : ce_D} {a : Nat} {b : Nat → Nat} {S S2 : ks_S} {V : Int32}
theorem kl_of_p (hX : ce_LX σ a b) (hr : ce_rX g a b S) (h : ce_CT ρ Y av σ g (ce_pv V σ g) ce_no) : ce_CT ρ Y av σ g (kl_q σ g a S V) ce_no := ce_CTm h (by
  rintro v σ1 g1 ⟨rfl, rfl, rfl⟩
  exact ⟨rfl, kw.of ⟨b, hX, hr⟩⟩)
theorem kl_of_r (hX : ce_LX σ a b) (h : ce_CT ρ Y av σ g (ce_rv σ (fun z9 g1 => z9 = V ∧ ce_rX g1 a b S2 ∧ ce_fr a (a + 411) g g1)) ce_no) : ce_CT ρ Y av σ g (kl_q σ g a S2 V) ce_no := ce_CTm h (by
  rintro v σ1 g1 ⟨z, rfl, rfl, rfl, h1, h2⟩
  exact ⟨rfl, ⟨⟨kl_s.rf, h2⟩, ⟨b, hX, h1⟩⟩⟩)
theorem kl_of_t (h : ce_CT ρ Y av σ g (ce_tv (fun z9 σ1 g1 => z9 = V ∧ ∃ b1, ce_sm (a + 63 + 1) σ σ1 ∧ ce_LX σ1 a b1 ∧ ce_rX g1 a b1 S2 ∧ ce_fr a (a + 411) g g1)) ce_no) : ce_CT ρ Y av σ g (kl_q σ g a S2 V) ce_no := ce_CTm h (by
  rintro v σ1 g1 ⟨z, rfl, rfl, b1, h1, h2, h3, h4⟩
  exact ⟨rfl, ⟨⟨⟨Nat.le_of_eq h1.1.symm, h1.2.1, h1.2.2.1, h1.2.2.2.1, h1.2.2.2.2⟩, h4⟩, ⟨b1, h2, h3⟩⟩⟩)
theorem kl_of_x {f : Nat} (hr : ce_rX g a b S) (h : ce_CT ρ Y av σ g (fun _ _ _ => False) (kx_X f σ g)) : ce_CT ρ Y av σ g (fun _ _ _ => False) (kx_XR f σ g a b S) := ce_CTx h (by
  rintro E σ1 g1 ⟨h1, rfl, h2⟩
  exact ⟨⟨h1, h2⟩, hr, ce_fr.rf⟩)
end KLA
section KLB
variable {ρ : Room} {Y Y' : ce_Y} {k pc n idx d9 N9 : Nat} {L : List (Option Value)} {σ : ce_S} {g : ce_D} {Q : Option Value → ce_S → ce_D → Prop} {X : String → ce_S → ce_D → Prop} {stk As rest : List Value}
/-- calls of helpers: what is made counts in one number -/
theorem kc_W {Q' : Option Value → ce_S → ce_D → Prop} (d : decode Y.2.1 pc = .ok (.invokestatic idx, 3)) (hY : ce_MH Y' n) (hl : Cond.methodLink Y.1.cls idx Y'.1 ∈ lw_tbl) (hC : ce_CT (ce_rl d9 N9) Y' As σ g Q' ce_no) (hst : stk = As.reverse ++ rest) (hn : As.length = n)
    (hR : ce_rm ρ (ce_rl d9 N9) Y'.2.2.1) (hrest : (rest.map fun v => v.category).sum ≤ 8) (hs : ρ.slots = 6 * ρ.cells) (hcc : k + N9 ≤ ρ.cells)
    (kk : ∀ v σ' g', Q' v σ' g' → ce_WP ρ Y (k + N9) (6 * (k + N9)) (pc + 3) L (v.toList ++ rest) σ' g' Q X) : ce_WP ρ Y k (6 * k) pc L stk σ g Q X :=
  ce_callSW d hY hl hC hst hn hR hrest hcc (by rw [hs]; show 6 * k + 6 * N9 ≤ _; omega) (fun v σ' g' h => by
    have := kk v σ' g' h
    rw [Nat.mul_add] at this
    exact this)
theorem kc_S {Q' : Option Value → ce_S → ce_D → Prop} (d : decode Y.2.1 pc = .ok (.invokestatic idx, 3)) (hY : ce_MS Y' n) (hl : Cond.methodLink Y.1.cls idx Y'.1 ∈ lw_tbl) (hC : ce_CT (ce_rl d9 N9) Y' As σ g Q' ce_no) (hst : stk = As.reverse ++ rest) (hn : As.length = n)
    (hR : ce_rm ρ (ce_rl d9 N9) Y'.2.2.1) (hrest : (rest.map fun v => v.category).sum ≤ 8) (hs : ρ.slots = 6 * ρ.cells) (hcc : k + N9 ≤ ρ.cells)
    (kk : ∀ v σ' g', Q' v σ' g' → ce_WP ρ Y (k + N9) (6 * (k + N9)) (pc + 3) L (v.toList ++ rest) σ' g' Q X) : ce_WP ρ Y k (6 * k) pc L stk σ g Q X :=
  ce_callS d hY hl hC hst hn hR hrest hcc (by rw [hs]; show 6 * k + 6 * N9 ≤ _; omega) (fun v σ' g' h => by
    have := kk v σ' g' h
    rw [Nat.mul_add] at this
    exact this)
/-- the long V and a new content -/
theorem kc_Wk {a : Nat} {S2 : ks_S} {V : Int64} {σ0 : ce_S} {g0 : ce_D} (d : decode Y.2.1 pc = .ok (.invokestatic idx, 3)) (hY : ce_MH Y' n) (hl : Cond.methodLink Y.1.cls idx Y'.1 ∈ lw_tbl) (hC : ce_CT (ce_rl 0 1) Y' As σ g (kq σ0 g0 a S2 V) ce_no) (hst : stk = As.reverse ++ rest) (hn : As.length = n)
    (hR : ce_rm ρ (ce_rl 0 1) Y'.2.2.1) (hrest : (rest.map fun v => v.category).sum ≤ 8) (hs : ρ.slots = 6 * ρ.cells) (hcc : k + 1 ≤ ρ.cells)
    (kk : ∀ σ' g', kw a S2 σ0 g0 σ' g' → ce_WP ρ Y (k + 1) (6 * (k + 1)) (pc + 3) L (.long V :: rest) σ' g' Q X) : ce_WP ρ Y k (6 * k) pc L stk σ g Q X :=
  kc_W d hY hl hC hst hn hR hrest hs hcc (fun v σ' g' h => by
    obtain ⟨rfl, h⟩ := h
    exact kk σ' g' h)
/-- the long V, nothing changes -/
theorem kc_Wj {V : Int64} (d : decode Y.2.1 pc = .ok (.invokestatic idx, 3)) (hY : ce_MH Y' n) (hl : Cond.methodLink Y.1.cls idx Y'.1 ∈ lw_tbl) (hC : ce_CT (ce_rl 0 0) Y' As σ g (ce_jv V σ g) ce_no) (hst : stk = As.reverse ++ rest) (hn : As.length = n)
    (hR : ce_rm ρ (ce_rl 0 0) Y'.2.2.1) (hrest : (rest.map fun v => v.category).sum ≤ 8) (hs : ρ.slots = 6 * ρ.cells) (hcc : k ≤ ρ.cells)
    (kk : ce_WP ρ Y k (6 * k) (pc + 3) L (.long V :: rest) σ g Q X) : ce_WP ρ Y k (6 * k) pc L stk σ g Q X :=
  kc_W d hY hl hC hst hn hR hrest hs hcc (fun v σ' g' h => by
    obtain ⟨rfl, rfl, rfl⟩ := h
    exact kk)
theorem kc_Sj {V : Int64} (d : decode Y.2.1 pc = .ok (.invokestatic idx, 3)) (hY : ce_MS Y' n) (hl : Cond.methodLink Y.1.cls idx Y'.1 ∈ lw_tbl) (hC : ce_CT (ce_rl d9 0) Y' As σ g (ce_jv V σ g) ce_no) (hst : stk = As.reverse ++ rest) (hn : As.length = n)
    (hR : ce_rm ρ (ce_rl d9 0) Y'.2.2.1) (hrest : (rest.map fun v => v.category).sum ≤ 8) (hs : ρ.slots = 6 * ρ.cells) (hcc : k ≤ ρ.cells)
    (kk : ce_WP ρ Y k (6 * k) (pc + 3) L (.long V :: rest) σ g Q X) : ce_WP ρ Y k (6 * k) pc L stk σ g Q X :=
  kc_S d hY hl hC hst hn hR hrest hs hcc (fun v σ' g' h => by
    obtain ⟨rfl, rfl, rfl⟩ := h
    exact kk)
/-- 1 and a new content -/
def kb (σ0 : ce_S) (g0 : ce_D) (a : Nat) (S2 : ks_S) : Option Value → ce_S → ce_D → Prop := fun v σ1 g1 => v = some (.int (nI 1)) ∧ kw a S2 σ0 g0 σ1 g1
theorem kc_Sb {a : Nat} {S2 : ks_S} {σ0 : ce_S} {g0 : ce_D} (d : decode Y.2.1 pc = .ok (.invokestatic idx, 3)) (hY : ce_MS Y' n) (hl : Cond.methodLink Y.1.cls idx Y'.1 ∈ lw_tbl) (hC : ce_CT (ce_rl d9 N9) Y' As σ g (kb σ0 g0 a S2) ce_no) (hst : stk = As.reverse ++ rest) (hn : As.length = n)
    (hR : ce_rm ρ (ce_rl d9 N9) Y'.2.2.1) (hrest : (rest.map fun v => v.category).sum ≤ 8) (hs : ρ.slots = 6 * ρ.cells) (hcc : k + N9 ≤ ρ.cells)
    (kk : ∀ σ' g', kw a S2 σ0 g0 σ' g' → ce_WP ρ Y (k + N9) (6 * (k + N9)) (pc + 3) L (.int (nI 1) :: rest) σ' g' Q X) : ce_WP ρ Y k (6 * k) pc L stk σ g Q X :=
  kc_S d hY hl hC hst hn hR hrest hs hcc (fun v σ' g' h => by
    obtain ⟨rfl, h⟩ := h
    exact kk σ' g' h)
/-- a call of the class itself, which throws nothing -/
theorem kc_V {a b9 d8 : Nat} {S2 : ks_S} {V : Int32} {σ0 : ce_S} {g0 : ce_D} {S : ks_S} (d : decode Y.2.1 pc = .ok (.invokevirtual idx, 3)) (hY : ce_MV Y' n) (hl : Cond.methodLink Y.1.cls idx Y'.1 ∈ lw_tbl) (hw : kw a S σ0 g0 σ g) (hC : ∀ b, ce_LX σ a b → ce_rX g a b S → ce_CT (ce_r d8) Y' (.ref a :: As) σ g (kl_q σ g a S2 V) ce_no) (hst : stk = As.reverse ++ .ref a :: rest) (hn : As.length = n) (hb : b9 = 7) (hcn : (vwCl[b9]?).map (fun r => r.1) = some Y'.1.cls)
    (hR : ce_rm ρ (ce_r d8) Y'.2.2.1) (hrest : (rest.map fun v => v.category).sum ≤ 8) (hs : ρ.slots = 6 * ρ.cells) (hcc : k ≤ ρ.cells)
    (kk : ∀ σ' g', kw a S2 σ0 g0 σ' g' → ce_WP ρ Y k (6 * k) (pc + 3) L (.int V :: rest) σ' g' Q X) : ce_WP ρ Y k (6 * k) pc L stk σ g Q X := by
  obtain ⟨b, hX, hr⟩ := hw.o
  subst hb
  exact ce_callV d hY hl (hC b hX hr) hst hn hX.1 hcn hR hrest hcc (by rw [hs]; show 6 * k + 0 ≤ _; omega) (fun v σ' g' h => by
    obtain ⟨rfl, h⟩ := h
    exact kk σ' g' (hw.tr h))
theorem kc_wid {k2 : Nat} (h : k ≤ k2) (kk : ce_WP ρ Y k2 (6 * k2) pc L stk σ g Q X) : ce_WP ρ Y k (6 * k) pc L stk σ g Q X := fun G A p e s m args below meth c H locs ls C I hl => W.widen h (Nat.mul_le_mul_left 6 h) (kk G A p e s m args below meth c H locs ls C I hl)
end KLB
