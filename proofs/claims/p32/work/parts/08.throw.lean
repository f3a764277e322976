section CEG
variable {ρ : Room} {Y : ce_Y} {kc ks pc : Nat} {L : List (Option Value)} {st : List Value} {σ : ce_S} {g : ce_D} {Q : Option Value → ce_S → ce_D → Prop} {X : String → ce_S → ce_D → Prop}
/-- n ints of the array a0 are copied to the array a -/
def ce_cp (g : ce_D) (a0 a n : Nat) : ce_D := fun b => if b = a then (fun k => if k < n then g a0 k else g a k) else g b
theorem ce_cp_eq (g : ce_D) (a0 a n : Nat) : ce_cp g a0 a n a = fun k => if k < n then g a0 k else g a k := if_pos rfl
theorem ce_copy {a0 a n idx : Nat} {i : Int32} (d : decode Y.2.1 pc = .ok (.invokestatic idx, 3)) (hl : Cond.methodLink Y.1.cls idx arraycopyName ∈ lw_tbl) (hnat : Cond.native arraycopyName ∈ lw_tbl) (hstat : Cond.static arraycopyName ∈ lw_tbl) (hini : Cond.initialized "java/lang/System" ∈ lw_tbl)
    (hk0 : ce_kd σ a0 = 10) (hk1 : ce_kd σ a = 10) (hi : i = nI n) (h0 : n ≤ ce_ln σ a0) (h1 : n ≤ ce_ln σ a) (hn : n ≤ 100000) (hf : 1 ≤ ρ.frames) (hlo : (st.map fun v => v.category).sum + (nativeFrameWords "java/lang/System" "arraycopy" 5 + 11) ≤ ρ.locals)
    (kk : ce_WP ρ Y kc ks (pc + 3) L st σ (ce_cp g a0 a n) Q X) : ce_WP ρ Y kc ks pc L (.int i :: .int 0 :: .ref a :: .int 0 :: .ref a0 :: st) σ g Q X := by
  intro G A p e s m args below meth c H locs ls C0 I hl'
  have kk := fun H1 locs1 I1 => kk G A p e s m args below meth c H1 locs1 ls C0 I1 hl'
  obtain ⟨hx, hb, hml, hr, hlk, hown, hts, hK, hZ, hnm, htab⟩ := C0
  subst hi
  have h31 : n < 2 ^ 31 := by omega
  have hc0 := (I.1 a0 (by omega)).2.2.1 hk0
  have hc1 := (I.1 a (by omega)).2.2.1 hk1
  intro T hT X0
  obtain ⟨-, k0, hk0', cm0, hkk0⟩ := (ce_tyK hK 0 _ rfl).1 (ce_ln σ a0) (fun j => .int (g a0 j))
  have hz : (0 : Int32).toNatClampNeg = 0 := rfl
  have hzi : (0 : Int32).toInt = 0 := rfl
  have hni : (nI n).toInt = (n : Int) := nI_toInt h31
  have hnc : (nI n).toNatClampNeg = n := nI_clamp h31
  obtain ⟨vm', X', step⟩ := X0.arraycopy hx hown (hts _ (ce_gw_in hl rfl Y)) (hts _ (ce_gw_in hnat rfl Y)) (hts _ (ce_gw_in hstat rfl Y)) (hts _ (ce_gw_in hini rfl Y)) (src := a0) (dst := a) (cs := arrV (G.2.2 0) (ce_ln σ a0) (fun j => .int (g a0 j))) (cd := arrV (G.2.2 0) (ce_ln σ a) (fun j => .int (g a j))) (srcPos := 0) (destPos := 0) (n := nI n) (by rw [hT]; exact hc0) (by rw [hT]; exact hc1)
    (fun _ h => by cases h) (fun _ h => by cases h) (fun h => by cases h) (fun h => by cases h) hk0' hk0' hkk0 hkk0 (by simp [refKind]) (by decide) (by decide) (nI_pos h31)
    (by rw [hzi, hni, arrV_size]; omega) (by rw [hzi, hni, arrV_size]; omega)
    (fun vm₁ _ i hi => by
      rw [hnc] at hi
      have e : (arrV (G.2.2 0) (ce_ln σ a0) (fun j => Value.int (g a0 j))).slots.getD ((0 : Int32).toNatClampNeg + i) .null = .int (g a0 i) := by
        rw [hz, Nat.zero_add, Array.getD_eq_getD_getElem?, arrV_read _ _ (by omega)]
        rfl
      rw [e]
      exact ⟨rfl, trivial⟩)
    (g := F0 m pc ls (.int (nI n) :: .int 0 :: .ref a :: .int 0 :: .ref a0 :: st)) rfl (by rw [hml]; exact hl'.1) (rest := st) rfl (by rw [hb]; exact d) hf (by show 2 * 0 + _ + _ ≤ _; omega)
  have e1 : copied (arrV (G.2.2 0) (ce_ln σ a0) (fun j => Value.int (g a0 j))) (arrV (G.2.2 0) (ce_ln σ a) (fun j => Value.int (g a j))) 0 0 (nI n) = arrV (G.2.2 0) (ce_ln σ a) (fun j => .int (ce_cp g a0 a n a j)) := by
    have h := va_copied (fun z => Value.int z) (G.2.2 0) (G.2.2 0) (n0 := ce_ln σ a0) (n1 := ce_ln σ a) (sp := 0) (dp := 0) (n := n) (g a0) (g a) (by omega)
    have h2 : copied (arrV (G.2.2 0) (ce_ln σ a0) (fun j => Value.int (g a0 j))) (arrV (G.2.2 0) (ce_ln σ a) (fun j => Value.int (g a j))) 0 0 (nI n) = (arrV (G.2.2 0) (ce_ln σ a) (fun j => Value.int (g a j))).storeRun 0 ((arrV (G.2.2 0) (ce_ln σ a0) (fun j => Value.int (g a0 j))).stretch 0 n) := by
      unfold copied
      rw [hz, hnc]
    rw [h2, h, ce_cp_eq]
    congr 1
    funext j
    unfold va_cpy
    by_cases hj : j < n <;> simp [hj]
  rw [e1] at X' step
  have hla : a < H.size := (Array.getElem?_eq_some_iff.mp hc1).1
  generalize hcell : arrV (G.2.2 0) (ce_ln σ a) (fun j => Value.int (ce_cp g a0 a n a j)) = cell1 at X' step
  have hheap : ((T.setVm vm').setCell a cell1).heap = H.setIfInBounds a cell1 := by rw [← hT]; rfl
  have oq : ∀ q : Nat, q ≠ a → (H.setIfInBounds a cell1)[q]? = H[q]? := fun q hq => by simp [Array.getElem?_setIfInBounds, Ne.symm hq]
  have hat : (H.setIfInBounds a cell1)[a]? = some cell1 := by simp [Array.getElem?_setIfInBounds, hla]
  have hsz : (H.setIfInBounds a cell1).size = H.size := by simp
  have I0 := ce_I_put (σ' := σ) (g' := ce_cp g a0 a n) (k := 0) I (by omega) hsz oq rfl rfl rfl (fun _ _ => rfl) (fun _ _ => rfl) (fun b hb => if_neg hb)
    ⟨fun ci r h9 hr => by have := (List.getElem?_eq_some_iff.mp hr).1; have : ci < 9 := this; omega, fun _ => by rw [hcell]; exact hat, fun h9 => by omega, fun h9 => by omega, fun h9 => by omega, fun h9 => by omega⟩
  have I1 : ∀ locs1 : List Loc, (∀ z ∈ locs1, z.base = a) → ce_I G A s σ (ce_cp g a0 a n) (H.setIfInBounds a cell1) (locs ++ locs1) := fun locs1 h9 => ⟨I0.1, I0.2.1, ⟨I0.2.2.1.1, I0.2.2.1.2.1, fun z hz => by
    rcases List.mem_append.mp hz with h | h
    · exact I.2.2.1.2.2 z h
    · rw [h9 z h]; exact I.2.2.2.2 a (by omega)⟩, I.2.2.2.1, I.2.2.2.2⟩
  obtain ⟨t, a1, b1⟩ := kk _ _ (I1 _ (fun z hz => by obtain ⟨q, -, hq⟩ := List.mem_map.mp hz; rw [← hq])) _ hheap X'
  exact ⟨t, step t a1, b1⟩
/-! exceptions -/
theorem ce_any {Y : ce_Y} {G : ce_G} {s : State} {args : Array Value} (hts : ∀ w ∈ ce_ws Y, w.before args s = true) (hK : ce_K G s) {Ls : List Cond} (h : Ls.all (fun w => decide (w ∈ lw_tbl) && (goodWord w || ce_nest w)) = true) : ∀ w ∈ Ls, w.before args s = true := by
  intro w hw
  have h1 := List.all_eq_true.mp h w hw
  simp only [Bool.and_eq_true, decide_eq_true_eq, Bool.or_eq_true] at h1
  rcases h1.2 with h2 | h2
  · exact hts _ (ce_gw_in h1.1 h2 Y)
  · exact va_Nw.use (ce_tabs_same h2) (hK.2.1 w h1.1 h2)
/-- what a throw leaves: the exception's cells are new -/
def ce_XT (cls : String) (σ : ce_S) (g : ce_D) : String → ce_S → ce_D → Prop := fun E σ' g' => E = cls ∧ g' = g ∧ ∃ n, σ.1 ≤ n ∧ σ' = (n, σ.2)
theorem ce_R_top {G : ce_G} {H H1 : Heap} {n : Nat} (h : ce_R G σ g H) (o1 : ∀ q : Nat, q < H.size → H1[q]? = H[q]?) : ce_R G (n, σ.2) g H1 := fun b hb => ⟨(h b hb).1, ce_cell_kept (h b hb).2 (o1 b (ce_lt h hb)) rfl rfl rfl rfl rfl⟩
theorem ce_throw {ik is ic : Nat} {cls text : String} {names : List String} (hh : Y.2.2.2.2 = []) (hcls : Bundle.fit cls = true) (hnames : ∀ n ∈ names, Bundle.fit n = true) (hk : Cond.classLink Y.1.cls ik cls ∈ lw_tbl) (hini : Cond.initialized cls ∈ lw_tbl) (hstr : (Y.1.cls, is, text) ∈ ce_strs) (hat : (vx_atS Y.1.cls ic cls names).all (fun w => decide (w ∈ lw_tbl) && (goodWord w || ce_nest w)) = true)
    (hgood : (vx_atS Y.1.cls ic cls names).all vx_ot = true)
    (d0 : decode Y.2.1 pc = .ok (.new ik, 3)) (d3 : decode Y.2.1 (pc + 3) = .ok (.dup, 1)) (d4 : decode Y.2.1 (pc + 4) = .ok (.ldc is, 2)) (d6 : decode Y.2.1 (pc + 6) = .ok (.invokespecial ic, 3)) (d9 : decode Y.2.1 (pc + 9) = .ok (.athrow, 1))
    (hf : names.length + 3 < ρ.frames) (hlo : (st.map fun v => v.category).sum + (13 * (names.length + 1) + 43) ≤ ρ.locals) (hcc : kc + 1 ≤ ρ.cells) (hss : ks + 6 ≤ ρ.slots) (hX : ∀ σ' g', ce_XT cls σ g cls σ' g' → X cls σ' g') : ce_WP ρ Y kc ks pc L st σ g Q X := by
  intro G A p e s m args below meth c H locs ls C0 I hl'
  obtain ⟨hx, hb, hml, hr, hlk, hown, hts, hK, hZ, hnm, htab⟩ := C0
  obtain ⟨sa, hsa⟩ := hK.2.2.1 _ hstr
  have hot := List.all_eq_true.mp hgood
  refine vx_throwS (text := text) (names := names) hx hb hK.2.2.2.2.1 hown hcls hnames (hts _ (ce_gw_in hk rfl Y)) (hts _ (ce_gw_in hini rfl Y)) hsa (ce_any hts hK hat) ?_ hZ.1 hZ.2 I.2.2.1 (by rw [hml]; exact hl'.1) d0 d3 d4 d6 d9 ?_ hf hlo hcc hss hlk ?_ I.2.2.1.2.2 hcc hss
  · intro w hw
    rcases List.mem_cons.mp hw with rfl | hw
    · rfl
    · rcases List.mem_cons.mp hw with rfl | hw
      · rfl
      · exact hot w hw
  · intro x hx'
    rw [htab, hh] at hx'
    cases hx'
  · intro t hal hsz ho
    exact ⟨(t.heap.size, σ.2), g, hX _ _ ⟨rfl, rfl, _, by rw [show σ.1 = H.size from I.2.1.symm]; exact hsz, rfl⟩, ce_R_top I.1 ho, rfl, I.2.2.2.2, Nat.le_trans I.2.2.1.1 hsz, fun q h1 h2 => (ho q (Nat.lt_of_lt_of_le h1 I.2.2.1.1)).trans (I.2.2.1.2.1 q h1 h2)⟩
theorem ce_throwW {ik is ic : Nat} {cls text : String} {names : List String} (hh : Y.2.2.2.2 = []) (hcls : Bundle.fit cls = true) (hnames : ∀ n ∈ names, Bundle.fit n = true) (hk : Cond.classLink Y.1.cls ik cls ∈ lw_tbl) (hini : Cond.initialized cls ∈ lw_tbl) (hstr : (Y.1.cls, is, text) ∈ ce_strs) (hat : (vx_atS Y.1.cls ic cls names).all (fun w => decide (w ∈ lw_tbl) && (goodWord w || ce_nest w)) = true)
    (hgood : (vx_atS Y.1.cls ic cls names).all vx_ot = true)
    (d0 : decode Y.2.1 pc = .ok (.new ik, 3)) (d3 : decode Y.2.1 (pc + 3) = .ok (.dup, 1)) (d4 : decode Y.2.1 (pc + 4) = .ok (.ldc_w is, 3)) (d7 : decode Y.2.1 (pc + 7) = .ok (.invokespecial ic, 3)) (d10 : decode Y.2.1 (pc + 10) = .ok (.athrow, 1))
    (hf : names.length + 3 < ρ.frames) (hlo : (st.map fun v => v.category).sum + (13 * (names.length + 1) + 43) ≤ ρ.locals) (hcc : kc + 1 ≤ ρ.cells) (hss : ks + 6 ≤ ρ.slots) (hX : ∀ σ' g', ce_XT cls σ g cls σ' g' → X cls σ' g') : ce_WP ρ Y kc ks pc L st σ g Q X := by
  intro G A p e s m args below meth c H locs ls C0 I hl'
  obtain ⟨hx, hb, hml, hr, hlk, hown, hts, hK, hZ, hnm, htab⟩ := C0
  obtain ⟨sa, hsa⟩ := hK.2.2.1 _ hstr
  have hot := List.all_eq_true.mp hgood
  refine vx_throwSW (text := text) (names := names) hx hb hK.2.2.2.2.1 hown hcls hnames (hts _ (ce_gw_in hk rfl Y)) (hts _ (ce_gw_in hini rfl Y)) hsa (ce_any hts hK hat) ?_ hZ.1 hZ.2 I.2.2.1 (by rw [hml]; exact hl'.1) d0 d3 d4 d7 d10 ?_ hf hlo hcc hss hlk ?_ I.2.2.1.2.2 hcc hss
  · intro w hw
    rcases List.mem_cons.mp hw with rfl | hw
    · rfl
    · rcases List.mem_cons.mp hw with rfl | hw
      · rfl
      · exact hot w hw
  · intro x hx'
    rw [htab, hh] at hx'
    cases hx'
  · intro t hal hsz ho
    exact ⟨(t.heap.size, σ.2), g, hX _ _ ⟨rfl, rfl, _, by rw [show σ.1 = H.size from I.2.1.symm]; exact hsz, rfl⟩, ce_R_top I.1 ho, rfl, I.2.2.2.2, Nat.le_trans I.2.2.1.1 hsz, fun q h1 h2 => (ho q (Nat.lt_of_lt_of_le h1 I.2.2.1.1)).trans (I.2.2.1.2.1 q h1 h2)⟩
/-- not caught -/
theorem ce_xout {E : String} (hh : Y.2.2.2.2 = []) (hc : kc ≤ ρ.cells) (hs : ks ≤ ρ.slots) (hX : X E σ g) : ce_WX ρ Y kc ks pc L st σ g Q X E := by
  intro G A p e s m args below meth c H locs ls ce q C I hl hq hv hcl
  refine vx_out (fun x hx => ?_) C.2.2.2.2.1 hq hv hcl (fun t ht _ => ⟨σ, g, hX, by rw [ht]; exact I.1, by rw [ht]; exact I.2.1, I.2.2.2.2, I.2.2.1.F ht⟩) I.2.2.1.2.2 hc hs
  rw [C.2.2.2.2.2.2.2.2.2.2, hh] at hx
  cases hx
/-- caught by the handler x of the method's table -/
theorem ce_xcatch {E : String} {hnd ct : Nat} (pre : List (Nat × Nat × Nat × Nat)) (b0 e0 : Nat) (suf : List (Nat × Nat × Nat × Nat)) (hsp : Y.2.2.2.2 = pre ++ (b0, e0, hnd, ct) :: suf) (hE : E ∈ ce_xs)
    (hpass : ∀ z ∈ pre, z.2.2.2 ≠ 0 ∧ ∃ nm ∈ ce_xs, E ≠ nm ∧ Cond.classLink Y.1.cls z.2.2.2 nm ∈ lw_tbl) (hcov : b0 ≤ pc ∧ pc < e0) (h0 : ct ≠ 0) (hlink : Cond.classLink Y.1.cls ct E ∈ lw_tbl) (hcast : Cond.castable E E ∈ lw_tbl)
    (kk : ∀ q, ce_WP ρ Y kc ks hnd L [.ref q] σ g Q X) : ce_WX ρ Y kc ks pc L st σ g Q X E := by
  intro G A p e s m args below meth c H locs ls ce q C I hl hq hv hcl
  have kk := kk q G A p e s m args below meth c H locs ls C I hl
  obtain ⟨hx, hb, hml, hr, hlk, hown, hts, hK, hZ, hnm, htab⟩ := C
  refine vx_catch (name := E) hown (tableOf pre) ⟨b0, e0, hnd, ct⟩ (tableOf suf) (by rw [htab, hsp]; simp [tableOf]) ?_ (by simp [covers, hcov.1, hcov.2]) h0 (hts _ (ce_gw_in hlink rfl Y)) (va_Nw.use rfl (hK.2.1 _ hcast rfl)) hq hv hcl kk
  intro z hz
  obtain ⟨w, hw, rfl⟩ := List.mem_map.mp hz
  obtain ⟨h1, nm, hnm1, hne, hlk1⟩ := hpass w hw
  exact Or.inr ⟨h1, nm, hts _ (ce_gw_in hlk1 rfl Y), hK.2.2.2.1 E hE nm hnm1 hne⟩
/-! calls of methods that may throw -/
theorem ce_callSX {Y' : ce_Y} {ρ' : Room} {n idx : Nat} {stk As rest : List Value} {Q' : Option Value → ce_S → ce_D → Prop} {X' : String → ce_S → ce_D → Prop} (d : decode Y.2.1 pc = .ok (.invokestatic idx, 3)) (hY : ce_MS Y' n) (hl : Cond.methodLink Y.1.cls idx Y'.1 ∈ lw_tbl) (hC : ce_CT ρ' Y' As σ g Q' X') (hst : stk = As.reverse ++ rest) (hn : As.length = n)
    (hR : ce_rm ρ ρ' Y'.2.2.1) (hrest : (rest.map fun v => v.category).sum ≤ 8) (hcc : kc + ρ'.cells ≤ ρ.cells) (hss : ks + ρ'.slots ≤ ρ.slots)
    (kk : ∀ v σ' g', Q' v σ' g' → ce_WP ρ Y (kc + ρ'.cells) (ks + ρ'.slots) (pc + 3) L (v.toList ++ rest) σ' g' Q X)
    (kx : ∀ E σ' g', X' E σ' g' → ce_WX ρ Y (kc + ρ'.cells) (ks + ρ'.slots) pc L rest σ' g' Q X E) : ce_WP ρ Y kc ks pc L stk σ g Q X := by
  intro G A p e s m args below meth c H locs ls C I hl'
  obtain ⟨hp, hh, hcw, hi, hsta⟩ := hY
  obtain ⟨hx, hb', hml, hr, hlk, hown, hts, hK, hZ, hnm, htab⟩ := id C
  exact ce_join (vx_runS (As := As) (rest := rest) (n := n) ⟨hx, hb', hml, hown, hts⟩ (hC G (ce_A σ)) ⟨ce_callB hts hp hh hcw hi hl hR, hts _ (ce_gw_in hsta rfl Y)⟩ ⟨ce_E_blind, fun U hU hW => ⟨rfl, ce_E_at C I hU hW⟩⟩ rfl hn hl'.1 hst (lv_room hrest) d ⟨hcc, hss⟩) C I hl' kk kx
theorem ce_callVX {Y' : ce_Y} {ρ' : Room} {n idx b ci : Nat} {stk As rest : List Value} {Q' : Option Value → ce_S → ce_D → Prop} {X' : String → ce_S → ce_D → Prop} (d : decode Y.2.1 pc = .ok (.invokevirtual idx, 3)) (hY : ce_MV Y' n) (hl : Cond.methodLink Y.1.cls idx Y'.1 ∈ lw_tbl) (hC : ce_CT ρ' Y' (.ref b :: As) σ g Q' X') (hst : stk = As.reverse ++ .ref b :: rest) (hn : As.length = n)
    (hb : ce_kd σ b = ci + 1) (hcn : (vwCl[ci]?).map (fun r => r.1) = some Y'.1.cls) (hR : ce_rm ρ ρ' Y'.2.2.1) (hrest : (rest.map fun v => v.category).sum ≤ 8) (hcc : kc + ρ'.cells ≤ ρ.cells) (hss : ks + ρ'.slots ≤ ρ.slots)
    (kk : ∀ v σ' g', Q' v σ' g' → ce_WP ρ Y (kc + ρ'.cells) (ks + ρ'.slots) (pc + 3) L (v.toList ++ rest) σ' g' Q X)
    (kx : ∀ E σ' g', X' E σ' g' → ce_WX ρ Y (kc + ρ'.cells) (ks + ρ'.slots) pc L rest σ' g' Q X E) : ce_WP ρ Y kc ks pc L stk σ g Q X := by
  intro G A p e s m args below meth c H locs ls C I hl'
  obtain ⟨hp, hh, hcw, hi, hin, hsel⟩ := hY
  obtain ⟨hx, hb', hml, hr, hlk, hown, hts, hK, hZ, hnm, htab⟩ := id C
  obtain ⟨r, hrc, hr1⟩ : ∃ r, vwCl[ci]? = some r ∧ r.1 = Y'.1.cls := by
    cases h9 : vwCl[ci]? with
    | none => rw [h9] at hcn; cases hcn
    | some r => rw [h9] at hcn; exact ⟨r, rfl, Option.some.inj hcn⟩
  obtain ⟨cell, q1, q2, q3, -⟩ := (I.1 b (by omega)).2.1 ci r hb hrc
  have hcl : s.vm.findClass Y'.1.cls = some cell.cls := by rw [q2, ← hr1]; exact (hK.1.1 ci r hrc).2.1
  exact ce_join (vx_runV (As := As) (rest := rest) (n := n) ⟨hx, hb', hml, hown, hts⟩ (hC G (ce_A σ)) ⟨ce_callB hts hp hh hcw hi hl hR, hts _ (ce_gw_in hin rfl Y), hts _ (ce_gw_in hsel rfl Y)⟩ ⟨ce_E_blind, ⟨cell, q1, by rw [q3]; rfl, hcl⟩, fun U hU hW => ⟨rfl, ce_E_at C I hU hW⟩⟩ rfl hn hl'.1 hst (lv_room hrest) d ⟨hcc, hss⟩) C I hl' kk kx
/-- a method with handlers: its entry -/
theorem ce_enterH {av : List Value} {z : Nat × Nat × Nat × Nat} {zs : List (Nat × Nat × Nat × Nat)} (hpl : plainName Y.1.cls = true) (hh : Y.2.2.2.2 = z :: zs) (hlen : (ce_eL av).length ≤ Y.2.2.1) (hL : ce_pad av Y.2.2.1 = L) (k : ce_WP ρ Y 0 0 0 L [] σ g Q X) : ce_CT ρ Y av σ g Q X := by
  intro G A
  have hw : ce_ws Y = Cond.codeWith Y.1 Y.2.1 Y.2.2.1 Y.2.2.2.1 (z :: zs) :: ce_gw := by unfold ce_ws ce_cw; rw [hh]
  refine vx_ofWH (cc := Y.2.1) (maxL := Y.2.2.1) (ret := Y.2.2.2.1) (hh := z :: zs) hpl (ws' := ce_gw) hw ?_
  intro p e s m args below meth c s₁ B hml hv
  obtain ⟨rfl, h1, h2, h3, h4, h5, h6⟩ := hv
  have hts := atoms_spec (ws := ce_ws Y) B.pre
  have hl := ce_L_entry av hlen
  rw [hL] at hl
  rw [lg_entry_eq]
  refine k G A p e s m _ below meth c s.heap [] _ ⟨B.exec, B.bytes, hml, B.returns, B.notSynchronized, findClass_of_methodNamed B.named, hts, h5, h6, (name_of_methodNamed B.named B.method).1, ?_⟩ ⟨h1, h2, va_S.rf, fun q hq => h3 q (by rw [← h2]; exact hq), h4⟩ hl
  rw [hh]
  exact vx_table (x := Y.1) B (hts _ (by rw [hw]; exact List.mem_cons_self))
def ce_MH (Y : ce_Y) (n : Nat) : Prop := ce_pn Y n ∧ (∃ z zs, Y.2.2.2.2 = z :: zs) ∧ ce_cw Y ∈ lw_tbl ∧ Cond.initialized Y.1.cls ∈ lw_tbl ∧ Cond.static Y.1 ∈ lw_tbl
theorem ce_callSW {Y' : ce_Y} {ρ' : Room} {n idx : Nat} {stk As rest : List Value} {Q' : Option Value → ce_S → ce_D → Prop} (d : decode Y.2.1 pc = .ok (.invokestatic idx, 3)) (hY : ce_MH Y' n) (hl : Cond.methodLink Y.1.cls idx Y'.1 ∈ lw_tbl) (hC : ce_CT ρ' Y' As σ g Q' ce_no) (hst : stk = As.reverse ++ rest) (hn : As.length = n)
    (hR : ce_rm ρ ρ' Y'.2.2.1) (hrest : (rest.map fun v => v.category).sum ≤ 8) (hcc : kc + ρ'.cells ≤ ρ.cells) (hss : ks + ρ'.slots ≤ ρ.slots)
    (kk : ∀ v σ' g', Q' v σ' g' → ce_WP ρ Y (kc + ρ'.cells) (ks + ρ'.slots) (pc + 3) L (v.toList ++ rest) σ' g' Q X) : ce_WP ρ Y kc ks pc L stk σ g Q X := by
  intro G A p e s m args below meth c H locs ls C I hl'
  obtain ⟨hp, ⟨z, zs, hh⟩, hcw, hi, hsta⟩ := hY
  obtain ⟨hx, hb', hml, hr, hlk, hown, hts, hK, hZ, hnm, htab⟩ := id C
  have hcw1 : ce_cw Y' = Cond.codeWith Y'.1 Y'.2.1 Y'.2.2.1 Y'.2.2.2.1 (z :: zs) := by unfold ce_cw; rw [hh]
  have hws1 : ce_ws Y' = Cond.codeWith Y'.1 Y'.2.1 Y'.2.2.1 Y'.2.2.2.1 (z :: zs) :: ce_gw := by unfold ce_ws; rw [hcw1]
  rw [hcw1] at hcw
  have hG : GoodIn (ce_ws Y) (va_wsS Y.1.cls idx Y'.1 (ce_ws Y')) := by
    intro w hw
    unfold va_wsS at hw
    rcases List.mem_append.mp hw with hw | hw
    · rcases List.mem_cons.mp hw with rfl | hw
      · exact ce_good1 hl rfl
      · rcases List.mem_cons.mp hw with rfl | hw
        · exact ce_good1 hsta rfl
        · rcases List.mem_cons.mp hw with rfl | hw
          · exact ce_good1 hi rfl
          · cases hw
    · rw [hws1] at hw
      rcases List.mem_cons.mp hw with rfl | hw
      · exact ce_good1 hcw rfl
      · obtain ⟨h1, h2⟩ := List.mem_filter.mp hw
        exact ce_good1 h1 h2
  exact ce_join0 (vx_runSW (hh := z :: zs) (As := As) (rest := rest) (n := n) ⟨hx, hb', hml, hown, hts⟩ (ce_met hC G (ce_A σ)) (vx_cwSW n hts hG hws1 rfl rfl hp hR) ⟨ce_E_blind, fun U hU hW => ⟨rfl, ce_E_at C I hU hW⟩⟩ rfl hn hl'.1 hst (lv_room hrest) d ⟨hcc, hss⟩) C I hl' kk
end CEG
