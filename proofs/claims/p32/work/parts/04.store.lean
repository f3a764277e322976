section CEC
variable {ρ : Room} {Y : ce_Y} {kc ks pc : Nat} {L : List (Option Value)} {st : List Value} {σ : ce_S} {g : ce_D} {Q : Option Value → ce_S → ce_D → Prop} {X : String → ce_S → ce_D → Prop}
/-- an int is written -/
def ce_up (g : ce_D) (a k : Nat) (x : Int32) : ce_D := fun b => if b = a then upd (g a) k x else g b
def ce_upR (σ : ce_S) (a k : Nat) (r : Option Nat) : ce_S := (σ.1, σ.2.1, σ.2.2.1, (fun b => if b = a then (fun j => if j = k then r else ce_gr σ a j) else ce_gr σ b), σ.2.2.2.2)
def ce_upL (σ : ce_S) (a k : Nat) (x : Int64) : ce_S := (σ.1, σ.2.1, σ.2.2.1, σ.2.2.2.1, (fun b => if b = a then (fun j => if j = k then x else ce_gl σ a j) else ce_gl σ b))
theorem ce_up_eq (g : ce_D) (a k : Nat) (x : Int32) : ce_up g a k x a = upd (g a) k x := if_pos rfl
theorem ce_up_ne (g : ce_D) {a b : Nat} (k : Nat) (x : Int32) (h : b ≠ a) : ce_up g a k x b = g b := if_neg h
theorem ce_up_at (g : ce_D) (a k : Nat) (x : Int32) : ce_up g a k x a k = x := by rw [ce_up_eq]; exact if_pos rfl
/-- what the classes' tables say -/
theorem ce_cls : ∀ (ci : Nat) (r : vw_C), vwCl[ci]? = some r → (∃ ty : Nat → FieldType, ∀ k, k < r.2.2 → parseFieldDescriptor (r.2.1 k).2.2.1 = some (ty k)) ∧ (∀ a, a < r.2.2 → ∀ b, b < r.2.2 → a ≠ b → (r.2.1 a).2.1 ≠ (r.2.1 b).2.1) ∧ (∀ w ∈ u_ws r.1 r.2.1 r.2.2, w ∈ lw_tbl)
  | 0, _, h => by cases h; exact ⟨⟨_, tyX0_ok⟩, nmX0, inX0⟩
  | 1, _, h => by cases h; exact ⟨⟨_, tyX1_ok⟩, nmX1, inX1⟩
  | 2, _, h => by cases h; exact ⟨⟨_, tyX2_ok⟩, nmX2, inX2⟩
  | 3, _, h => by cases h; exact ⟨⟨_, tyX3_ok⟩, nmX3, inX3⟩
  | 4, _, h => by cases h; exact ⟨⟨_, tyX4_ok⟩, nmX4, inX4⟩
  | 5, _, h => by cases h; exact ⟨⟨_, tyX5_ok⟩, nmX5, inX5⟩
  | 6, _, h => by cases h; exact ⟨⟨_, tyX6_ok⟩, nmX6, inX6⟩
  | 7, _, h => by cases h; exact ⟨⟨_, tyX7_ok⟩, nmX7, inX7⟩
  | 8, _, h => by cases h; exact ⟨⟨_, tyX0_ok⟩, nmX0, inX0⟩
  | n + 9, _, h => by simp [vwCl] at h
theorem ce_uin {C : String} {T : u_T} {N : Nat} (h : ∀ w ∈ u_ws C T N, w ∈ lw_tbl) (Y : ce_Y) : ∀ w ∈ u_ws C T N, w ∈ ce_ws Y := by
  intro w hw
  refine ce_gw_in (h w hw) ?_ Y
  obtain ⟨k, -, rfl⟩ := List.mem_map.mp hw
  unfold u_lay
  split <;> rfl
/-- the field k of class ci is what own's entry idx names -/
def ce_FL (own : String) (idx ci k : Nat) : Prop := ∃ (C : String) (T : u_T) (N : Nat), vwCl[ci]? = some (C, T, N) ∧ k < N ∧ (T k).1 = C ∧
  (Cond.fieldLink own idx C (T k).2.1 (T k).2.2.1 ∈ lw_tbl ∨ ∃ host, Cond.fieldLinkNest own idx C (T k).2.1 (T k).2.2.1 host ∈ lw_tbl)
theorem ce_getf {i ci k a : Nat} {v : Value} (d : decode Y.2.1 pc = .ok (.getfield i, 3)) (hf : ce_FL Y.1.cls i ci k) (hk : ce_kd σ a = ci + 1) (hv : ce_fv σ g ci a k = v) (kk : ce_WP ρ Y kc ks (pc + 3) L (v :: st) σ g Q X) : ce_WP ρ Y kc ks pc L (.ref a :: st) σ g Q X := by
  intro G A p e s m args below meth c H locs ls C I hl
  have kk := kk G A p e s m args below meth c H locs ls C I hl
  obtain ⟨hx, hb, hml, hr, hlk, hown, hts, hK, hZ, hnm, htab⟩ := C
  obtain ⟨Cn, T, N, hc, hkN, hT1, hlink⟩ := hf
  have hin := ce_uin (ce_cls ci _ hc).2.2 Y
  obtain ⟨h1, -⟩ := (I.1 a (by omega)).2
  obtain ⟨cell, q1, q2, q3, q4⟩ := h1 ci _ hk hc
  obtain ⟨hS, hfc, kC, hkC, hkind⟩ := hK.1.1 ci _ hc
  obtain ⟨cf, kf, fi, f, hi, hsl⟩ := hS k hkN
  have hst := (u_facts hfc hkC (u_lays hts hin hkN) hi).1
  have hi' : s.fieldFound? Cn (T k).2.1 (T k).2.2.1 = some (cf, kf, fi, f) := by rw [← hi, hT1]
  rcases hlink with hlink | ⟨host, hlink⟩
  · exact W.getf hx hb hown (hts _ (ce_gw_in hlink rfl Y)) hi' hst q1 (by rw [q3]; exact fun h => by cases h) (v := v) (by rw [hsl, q4 k hkN, hv]) rfl rfl d kk
  · exact va_Wgetf hx hb hown (va_Nw.use rfl (hK.2.1 _ hlink rfl)) hi' hst q1 (by rw [q3]; exact fun h => by cases h) (v := v) (by rw [hsl, q4 k hkN, hv]) rfl rfl d kk
def ce_FI (own : String) (idx ci k : Nat) : Prop := ce_FL own idx ci k ∧ ce_rty ci k = false
def ce_FR (own : String) (idx ci k : Nat) : Prop := ce_FL own idx ci k ∧ ce_rty ci k = true
theorem ce_getI {i ci k a : Nat} (d : decode Y.2.1 pc = .ok (.getfield i, 3)) (hf : ce_FI Y.1.cls i ci k) (hk : ce_kd σ a = ci + 1) (kk : ce_WP ρ Y kc ks (pc + 3) L (.int (g a k) :: st) σ g Q X) : ce_WP ρ Y kc ks pc L (.ref a :: st) σ g Q X :=
  ce_getf d hf.1 hk (by unfold ce_fv; rw [hf.2]; rfl) kk
theorem ce_getR {i ci k a b : Nat} (d : decode Y.2.1 pc = .ok (.getfield i, 3)) (hf : ce_FR Y.1.cls i ci k) (hk : ce_kd σ a = ci + 1) (hv : ce_gr σ a k = some b) (kk : ce_WP ρ Y kc ks (pc + 3) L (.ref b :: st) σ g Q X) : ce_WP ρ Y kc ks pc L (.ref a :: st) σ g Q X :=
  ce_getf d hf.1 hk (by unfold ce_fv; rw [hf.2, if_pos rfl, hv]; rfl) kk
/-- behind a write to the cell a -/
theorem ce_I_put {G : ce_G} {A : Nat → Prop} {s : State} {σ σ' : ce_S} {g g' : ce_D} {H H1 : Heap} {locs : List Loc} {a k : Nat} (I : ce_I G A s σ g H locs) (ha : ce_kd σ a ≠ 0) (z : H1.size = H.size) (oq : ∀ q : Nat, q ≠ a → H1[q]? = H[q]?)
    (e0 : ce_tp σ' = ce_tp σ) (e1 : ce_kd σ' = ce_kd σ) (e2 : ce_ln σ' = ce_ln σ) (e3 : ∀ b, b ≠ a → ce_gr σ' b = ce_gr σ b) (e4 : ∀ b, b ≠ a → ce_gl σ' b = ce_gl σ b) (e5 : ∀ b, b ≠ a → g' b = g b) (hc : ce_cell G σ' g' H1 a) : ce_I G A s σ' g' H1 (locs ++ [⟨a, k⟩]) := by
  refine ⟨fun b hb => ?_, by rw [z, e0]; exact I.2.1, I.2.2.1.put z oq (I.2.2.2.2 a ha), I.2.2.2.1, fun q hq => I.2.2.2.2 q (by rw [← e1]; exact hq)⟩
  have hb' : ce_kd σ b ≠ 0 := by rw [← e1]; exact hb
  refine ⟨by rw [e1]; exact (I.1 b hb').1, ?_⟩
  by_cases hba : b = a
  · rw [hba]; exact hc
  · exact ce_cell_kept (I.1 b hb').2 (oq b hba) (by rw [e1]) (by rw [e2]) (e3 b hba) (e4 b hba) (e5 b hba)
theorem ce_fv_up (σ : ce_S) (g : ce_D) {ci a k : Nat} {x : Int32} (hr : ce_rty ci k = false) (j : Nat) : updV (ce_fv σ g ci a) k (.int x) j = ce_fv σ (ce_up g a k x) ci a j := by
  unfold updV ce_fv
  by_cases hj : j = k
  · subst hj
    rw [if_pos rfl, hr, ce_up_at]; rfl
  · rw [if_neg hj, ce_up_eq]
    show _ = if _ then _ else Value.int (if j = k then x else g a j)
    rw [if_neg hj]
theorem ce_upR_eq (σ : ce_S) (a k : Nat) (r : Option Nat) (j : Nat) : ce_gr (ce_upR σ a k r) a j = if j = k then r else ce_gr σ a j := by
  show (if a = a then (fun j => if j = k then r else ce_gr σ a j) else ce_gr σ a) j = _
  rw [if_pos rfl]
theorem ce_upR_ne (σ : ce_S) {a b : Nat} (k : Nat) (r : Option Nat) (h : b ≠ a) : ce_gr (ce_upR σ a k r) b = ce_gr σ b := if_neg h
theorem ce_fv_upR (σ : ce_S) (g : ce_D) {ci a k : Nat} {r : Option Nat} (hr : ce_rty ci k = true) (j : Nat) : updV (ce_fv σ g ci a) k (va_rf r) j = ce_fv (ce_upR σ a k r) g ci a j := by
  unfold updV ce_fv
  rw [ce_upR_eq]
  by_cases hj : j = k
  · subst hj
    rw [if_pos rfl, hr, if_pos rfl, if_pos rfl]
  · rw [if_neg hj, if_neg hj]
/-- a field of a kind that can be written: not final -/
def ce_PI (own : String) (idx ci k : Nat) (ty : FieldType) : Prop := ce_FI own idx ci k ∧ ∃ (r : vw_C), vwCl[ci]? = some r ∧ (r.2.1 k).2.2.2 = false ∧ parseFieldDescriptor (r.2.1 k).2.2.1 = some ty
theorem ce_cell_fld {G : ce_G} {σ' : ce_S} {g' : ce_D} {H : Heap} {a ci : Nat} (hk : ce_kd σ' a = ci + 1) {r : vw_C} (hc : vwCl[ci]? = some r) (h : t_OB a (G.2.1.1 ci) r.2.2 (G.2.1.2 ci) H (ce_fv σ' g' ci a)) : ce_cell G σ' g' H a := by
  have hci : ci < 9 := (List.getElem?_eq_some_iff.mp hc).1
  refine ⟨fun c2 r2 h2 hr2 => ?_, fun h2 => by omega, fun h2 => by omega, fun h2 => by omega, fun h2 => by omega, fun h2 => by omega⟩
  have : c2 = ci := by omega
  subst this
  cases hc.symm.trans hr2
  exact h
theorem ce_putI {i ci k a : Nat} {x : Int32} {ty : FieldType} (d : decode Y.2.1 pc = .ok (.putfield i, 3)) (hf : ce_PI Y.1.cls i ci k ty) (hk : ce_kd σ a = ci + 1) (hn : narrow ty (.int x) = .int x) (hfit : fits ty (.int x) = true) (kk : ce_WP ρ Y kc ks (pc + 3) L st σ (ce_up g a k x) Q X) : ce_WP ρ Y kc ks pc L (.int x :: .ref a :: st) σ g Q X := by
  intro G A p e s m args below meth c H locs ls C I hl
  have kk := fun H1 locs1 I1 => kk G A p e s m args below meth c H1 locs1 ls C I1 hl
  obtain ⟨hx, hb, hml, hr, hlk, hown, hts, hK, hZ, hnm, htab⟩ := C
  obtain ⟨⟨⟨Cn, T, N, hc, hkN, hT1, hlink⟩, hrt⟩, r, hcr, hfin, hdesc⟩ := hf
  cases hc.symm.trans hcr
  obtain ⟨⟨ty0, hty⟩, hdis, hin0⟩ := ce_cls ci _ hc
  have hin := ce_uin hin0 Y
  have hap := va_apart (own := Y.1.cls) hts hin ty0 hty hdis hK.1 hc
  obtain ⟨h1, -⟩ := (I.1 a (by omega)).2
  obtain ⟨cell, q1, q2, q3, q4⟩ := h1 ci _ hk hc
  obtain ⟨hS, hfc, kC, hkC, hkind⟩ := hK.1.1 ci _ hc
  obtain ⟨cf, kf, fi, f, hi, hsl⟩ := hS k hkN
  have hlay := hts _ (hin _ (u_in_lay hkN))
  unfold u_lay at hlay
  rw [if_neg (by rw [hfin]; decide)] at hlay
  have hst := (u_facts hfc hkC (u_lays hts hin hkN) hi).1
  have h6 := u_store hfc hkC hkind hlay hi hdesc hn hfit
  have hi' : s.fieldFound? Cn (T k).2.1 (T k).2.2.1 = some (cf, kf, fi, f) := by rw [← hi, hT1]
  have fin : ∀ H' : Heap, H'[a]? = some (cell.setSlot f.slot (.int x)) → H'.size = H.size → (∀ q, q ≠ a → H'[q]? = H[q]?) → W p G.1 e ρ s m args below meth c H' (locs ++ [⟨a, f.slot⟩]) kc ks (vx_MQ below (ce_Q G Q A) (ce_X G X A) args s ρ.cells ρ.slots A) (F0 m (pc + 3) ls st) := by
    intro H' e1 e2 e3
    refine kk H' _ (ce_I_put I (by omega) e2 e3 rfl rfl rfl (fun _ _ => rfl) (fun _ _ => rfl) (fun b hb => ce_up_ne g k x hb) (ce_cell_fld hk hc ?_))
    rw [hsl] at e1
    exact t_OB.to (V := updV (ce_fv σ g ci a) k (.int x)) ⟨_, e1, q2, q3, t_set q4 hap hkN _⟩ (fun j _ => ce_fv_up σ g hrt j)
  rcases hlink with hlink | ⟨host, hlink⟩
  · exact W.putK hx hb (f := f) ⟨hown, hts _ (ce_gw_in hlink rfl Y), ⟨_, _, _, hi'⟩, hst⟩ (by rw [q2]; exact h6) q1 q3 (by rw [hsl]; exact k2_hasslot (q4 k hkN)) rfl rfl d fin
  · exact va_WputK hx hb (f := f) hown (va_Nw.use rfl (hK.2.1 _ hlink rfl)) hi' hst (by rw [q2]; exact h6) q1 q3 (by rw [hsl]; exact k2_hasslot (q4 k hkN)) rfl rfl d fin
/-- a final field of references in a constructor -/
def ce_PF (own : String) (idx ci k : Nat) : Prop := ce_FR own idx ci k ∧ ∃ (C : String) (T : u_T) (N : Nat) (ty : FieldType), vwCl[ci]? = some (C, T, N) ∧ k < N ∧ C = own ∧ (T k).1 = own ∧ (T k).2.2.2 = true ∧ parseFieldDescriptor (T k).2.2.1 = some ty ∧ (∀ b, narrow ty (.ref b) = .ref b ∧ fits ty (.ref b) = true) ∧ Cond.fieldLink own idx C (T k).2.1 (T k).2.2.1 ∈ lw_tbl
theorem ce_putF {i ci k a b : Nat} (d : decode Y.2.1 pc = .ok (.putfield i, 3)) (hf : ce_PF Y.1.cls i ci k) (hk : ce_kd σ a = ci + 1) (hin2 : Y.1.name = "<init>") (kk : ce_WP ρ Y kc ks (pc + 3) L st (ce_upR σ a k (some b)) g Q X) : ce_WP ρ Y kc ks pc L (.ref b :: .ref a :: st) σ g Q X := by
  intro G A p e s m args below meth c H locs ls C I hl
  have kk := fun H1 locs1 I1 => kk G A p e s m args below meth c H1 locs1 ls C I1 hl
  obtain ⟨hx, hb, hml, hr, hlk, hown, hts, hK, hZ, hnm, htab⟩ := C
  obtain ⟨⟨-, hrt⟩, Cn, T, N, ty, hc, hkN, hCn, hT1, hfin, hdesc, hnf, hlink⟩ := hf
  obtain ⟨⟨ty0, hty⟩, hdis, hin0⟩ := ce_cls ci _ hc
  have hin := ce_uin hin0 Y
  have hap := va_apart (own := Y.1.cls) hts hin ty0 hty hdis hK.1 hc
  obtain ⟨h1, -⟩ := (I.1 a (by omega)).2
  obtain ⟨cell, q1, q2, q3, q4⟩ := h1 ci _ hk hc
  obtain ⟨hS, hfc, kC, hkC, hkind⟩ := hK.1.1 ci _ hc
  obtain ⟨cf, kf, fi, f, hi, hsl⟩ := hS k hkN
  have hlay := hts _ (hin _ (u_in_lay hkN))
  unfold u_lay at hlay
  rw [if_pos hfin] at hlay
  have hst := (u_facts hfc hkC (u_lays hts hin hkN) hi).1
  have hcf : m.cls = cf := by
    obtain ⟨_, _, c', _, _, _, -, -, hf', -, -, -, hown2, -⟩ := Cond.laysFinal_spec hlay
    have e1 : c' = cf := by have := hi.symm.trans hf'; simp at this; exact this.1.symm
    rw [hT1] at hown2
    rw [← e1]; exact Option.some.inj (hown.symm.trans hown2)
  have h6 := u_fits hfc hkC hkind (Or.inr hlay) hi hdesc (hnf b).1 (hnf b).2
  have hi' : s.fieldFound? Cn (T k).2.1 (T k).2.2.1 = some (cf, kf, fi, f) := by rw [← hi, hT1, hCn]
  refine W.putFinK hx hb hown (hts _ (ce_gw_in hlink rfl Y)) hi' hst hcf (hnm.trans hin2) (by rw [q2]; exact h6) q1 q3 (by rw [hsl]; exact k2_hasslot (q4 k hkN)) rfl rfl d fun H' e1 e2 e3 => ?_
  refine kk H' _ (ce_I_put I (by omega) e2 e3 rfl rfl rfl (fun c2 hb => if_neg hb) (fun _ _ => rfl) (fun _ _ => rfl) (ce_cell_fld hk hc ?_))
  rw [hsl] at e1
  exact t_OB.to (V := updV (ce_fv σ g ci a) k (va_rf (some b))) ⟨_, e1, q2, q3, t_set q4 hap hkN _⟩ (fun j _ => ce_fv_upR σ g hrt j)
end CEC
