section CEE
variable {ρ : Room} {Y : ce_Y} {kc ks pc : Nat} {L : List (Option Value)} {st : List Value} {σ : ce_S} {g : ce_D} {Q : Option Value → ce_S → ce_D → Prop} {X : String → ce_S → ce_D → Prop}
/-! ends -/
theorem ce_iret {ty : FieldType} {v : Int32} (d : decode Y.2.1 pc = .ok (.ireturn, 1)) (hr : Y.2.2.2.1 = some ty) (hn : narrow ty (.int v) = .int v) (hc : kc ≤ ρ.cells) (hs : ks ≤ ρ.slots) (q : Q (some (.int v)) σ g) : ce_WP ρ Y kc ks pc L [.int v] σ g Q X := by
  intro G A p e s m args below meth c H locs ls C I hl
  exact W.widen hc hs (vx_ret (W.zret (ty := ty) C.1 C.2.1 (C.2.2.2.1.trans hr) hn (fun t ht hW => ⟨some (.int v), σ, g, rfl, q, by rw [ht]; exact I.1, by rw [ht]; exact I.2.1, I.2.2.2.2, I.2.2.1.F ht⟩) I.2.2.1.2.2 d C.2.2.2.2.1))
theorem ce_lret {v : Int64} (d : decode Y.2.1 pc = .ok (.lreturn, 1)) (hr : Y.2.2.2.1 = some .long) (hc : kc ≤ ρ.cells) (hs : ks ≤ ρ.slots) (q : Q (some (.long v)) σ g) : ce_WP ρ Y kc ks pc L [.long v] σ g Q X := by
  intro G A p e s m args below meth c H locs ls C I hl
  exact W.widen hc hs (vx_ret (W.lret C.1 C.2.1 (C.2.2.2.1.trans hr) (fun t ht hW => ⟨some (.long v), σ, g, rfl, q, by rw [ht]; exact I.1, by rw [ht]; exact I.2.1, I.2.2.2.2, I.2.2.1.F ht⟩) I.2.2.1.2.2 d C.2.2.2.2.1))
theorem ce_vret (d : decode Y.2.1 pc = .ok (.return_, 1)) (hr : Y.2.2.2.1 = none) (hc : kc ≤ ρ.cells) (hs : ks ≤ ρ.slots) (q : Q none σ g) : ce_WP ρ Y kc ks pc L [] σ g Q X := by
  intro G A p e s m args below meth c H locs ls C I hl
  exact W.widen hc hs (vx_ret (W.vret C.1 C.2.1 (C.2.2.2.1.trans hr) (fun t ht hW => ⟨none, σ, g, rfl, q, by rw [ht]; exact I.1, by rw [ht]; exact I.2.1, I.2.2.2.2, I.2.2.1.F ht⟩) I.2.2.1.2.2 d C.2.2.2.2.1))
theorem ce_mono {Q' : Option Value → ce_S → ce_D → Prop} (h : ce_WP ρ Y kc ks pc L st σ g Q X) (hQ : ∀ v σ' g', Q v σ' g' → Q' v σ' g') : ce_WP ρ Y kc ks pc L st σ g Q' X := by
  intro G A p e s m args below meth c H locs ls C I hl T hT X0
  obtain ⟨t, h1, o, h2, h3, h4⟩ := h G A p e s m args below meth c H locs ls C I hl T hT X0
  refine ⟨t, h1, o, h2, h3, ?_⟩
  rcases h4 with ⟨⟨v, σ', g', q1, q2, q3⟩, q4⟩ | h4
  · exact Or.inl ⟨⟨v, σ', g', q1, hQ _ _ _ q2, q3⟩, q4⟩
  · exact Or.inr h4
/-! a method's entry -/
def ce_eL : List Value → List (Option Value)
  | [] => []
  | .long x :: r => some (.long x) :: none :: ce_eL r
  | .double x :: r => some (.double x) :: none :: ce_eL r
  | v :: r => some v :: ce_eL r
theorem ce_eL_sl : ∀ (av : List Value), (ce_eL av).length = (lg_sl av).length ∧ ∀ (i : Nat) (v : Value), (ce_eL av)[i]? = some (some v) → (lg_sl av)[i]? = some (.val v)
  | [] => ⟨rfl, fun i v h => by simp [ce_eL] at h⟩
  | .long x :: r => by
    obtain ⟨h1, h2⟩ := ce_eL_sl r
    refine ⟨by simp [ce_eL, lg_sl, Value.category] at h1 ⊢; exact h1, fun i v h => ?_⟩
    match i, h with
    | 0, h => cases h; rfl
    | 1, h => cases h
    | i + 2, h => exact h2 i v h
  | .double x :: r => by
    obtain ⟨h1, h2⟩ := ce_eL_sl r
    refine ⟨by simp [ce_eL, lg_sl, Value.category] at h1 ⊢; exact h1, fun i v h => ?_⟩
    match i, h with
    | 0, h => cases h; rfl
    | 1, h => cases h
    | i + 2, h => exact h2 i v h
  | .int x :: r => by
    obtain ⟨h1, h2⟩ := ce_eL_sl r
    refine ⟨by simp [ce_eL, lg_sl, Value.category] at h1 ⊢; exact h1, fun i v h => ?_⟩
    match i, h with
    | 0, h => cases h; rfl
    | i + 1, h => exact h2 i v h
  | .float x :: r => by
    obtain ⟨h1, h2⟩ := ce_eL_sl r
    refine ⟨by simp [ce_eL, lg_sl, Value.category] at h1 ⊢; exact h1, fun i v h => ?_⟩
    match i, h with
    | 0, h => cases h; rfl
    | i + 1, h => exact h2 i v h
  | .ref x :: r => by
    obtain ⟨h1, h2⟩ := ce_eL_sl r
    refine ⟨by simp [ce_eL, lg_sl, Value.category] at h1 ⊢; exact h1, fun i v h => ?_⟩
    match i, h with
    | 0, h => cases h; rfl
    | i + 1, h => exact h2 i v h
  | .retAddr x :: r => by
    obtain ⟨h1, h2⟩ := ce_eL_sl r
    refine ⟨by simp [ce_eL, lg_sl, Value.category] at h1 ⊢; exact h1, fun i v h => ?_⟩
    match i, h with
    | 0, h => cases h; rfl
    | i + 1, h => exact h2 i v h
  | .null :: r => by
    obtain ⟨h1, h2⟩ := ce_eL_sl r
    refine ⟨by simp [ce_eL, lg_sl, Value.category] at h1 ⊢; exact h1, fun i v h => ?_⟩
    match i, h with
    | 0, h => cases h; rfl
    | i + 1, h => exact h2 i v h
def ce_pad (av : List Value) (n : Nat) : List (Option Value) := ce_eL av ++ List.replicate (n - (ce_eL av).length) none
theorem ce_L_entry (av : List Value) {n : Nat} (h : (ce_eL av).length ≤ n) : ce_L ((lg_sl av ++ List.replicate (n - (lg_sl av).length) Slot.unset).toArray) n (ce_pad av n) := by
  obtain ⟨h1, h2⟩ := ce_eL_sl av
  obtain ⟨a1, a2, -⟩ := lv_entry av (n := n) (by rw [← h1]; exact h)
  refine ⟨a1, a2, by simp [ce_pad]; omega, fun i v hi => ?_⟩
  unfold ce_pad at hi
  by_cases hl : i < (ce_eL av).length
  · rw [List.getElem?_append_left hl] at hi
    have h3 := h2 i v hi
    rw [List.getElem?_toArray, List.getElem?_append_left (by rw [← h1]; exact hl)]
    exact h3
  · rw [List.getElem?_append_right (by omega)] at hi
    have h3 := List.getElem?_eq_some_iff.mp hi
    obtain ⟨h4, h5⟩ := h3
    rw [List.getElem_replicate] at h5
    cases h5
theorem ce_enter {av : List Value} (hpl : plainName Y.1.cls = true) (hh : Y.2.2.2.2 = []) (hlen : (ce_eL av).length ≤ Y.2.2.1) (hL : ce_pad av Y.2.2.1 = L) (k : ce_WP ρ Y 0 0 0 L [] σ g Q X) : ce_CT ρ Y av σ g Q X := by
  intro G A
  refine vx_ofW (cc := Y.2.1) (maxL := Y.2.2.1) (ret := Y.2.2.2.1) hpl (ws' := ce_gw) (by unfold ce_ws ce_cw; rw [hh]) ?_
  intro p e s m args below meth c s₁ B hml htab hv
  obtain ⟨rfl, h1, h2, h3, h4, h5, h6⟩ := hv
  have hts := atoms_spec (ws := ce_ws Y) B.pre
  have hl := ce_L_entry av hlen
  rw [hL] at hl
  rw [lg_entry_eq]
  refine k G A p e s m _ below meth c s.heap [] _ ⟨B.exec, B.bytes, hml, B.returns, B.notSynchronized, findClass_of_methodNamed B.named, hts, h5, h6, (name_of_methodNamed B.named B.method).1, ?_⟩ ⟨h1, h2, va_S.rf, fun q hq => h3 q (by rw [← h2]; exact hq), h4⟩ hl
  rw [hh]
  show c.exceptionTable.toList = []
  cases he : c.exceptionTable.toList with
  | nil => rfl
  | cons x r => exact (htab x (by rw [he]; exact List.mem_cons_self)).elim
/-! behind a call -/
theorem ce_A_up {G : ce_G} {A : Nat → Prop} {s : State} {H : Heap} {locs : List Loc} (I : ce_I G A s σ g H locs) : ∀ q, ce_A σ q → A q := by
  intro q hq
  rcases hq with hq | hq
  · exact I.2.2.2.2 q hq
  · exact I.2.2.2.1 q (Nat.le_trans I.2.2.1.1 (by rw [I.2.1]; exact hq))
theorem ce_E_at {Y : ce_Y} {G : ce_G} {A : Nat → Prop} {p : Program} {s : State} {m : MethodId} {args : Array Value} {meth : Method} {c : Code} {H : Heap} {locs : List Loc} (C : ce_C Y G A p s m args meth c) (I : ce_I G A s σ g H locs) {U : State} (hU : U.heap = H) (hW : s.WarmedH U.vm) : ce_E G (ce_A σ) σ g U := by
  refine ⟨by rw [hU]; exact I.1, by rw [hU]; exact I.2.1, fun q hq => Or.inr hq, fun q hq => Or.inl hq, ce_K_warm hW C.2.2.2.2.2.2.2.1, ?_⟩
  rw [hU]
  exact ce_Z_narrow (ce_Z_moved hW.alike (ce_Z_kept C.2.2.2.2.2.2.2.2.1 I.2.2.1.2.1)) (ce_A_up I)
theorem ce_join {G : ce_G} {A : Nat → Prop} {p : Program} {e : Env} {s : State} {m : MethodId} {args : Array Value} {below : List Frame} {meth : Method} {c : Code} {H : Heap} {locs : List Loc} {ls : Array Slot} {mc ms : Nat} {st0 rest : List Value} {a : Array Value} {Q' : Option Value → ce_S → ce_D → Prop} {X' : String → ce_S → ce_D → Prop}
    (hr : vx_Run p G.1 e ρ s m args below meth c H locs kc ks mc ms (F0 m pc ls st0) rest (ce_Q G Q' (ce_A σ) a) (ce_X G X' (ce_A σ)) (ce_A σ))
    (C : ce_C Y G A p s m args meth c) (I : ce_I G A s σ g H locs) (hl : ce_L ls Y.2.2.1 L)
    (kk : ∀ v σ' g', Q' v σ' g' → ce_WP ρ Y (kc + mc) (ks + ms) (pc + 3) L (v.toList ++ rest) σ' g' Q X)
    (kx : ∀ E σ' g', X' E σ' g' → ce_WX ρ Y (kc + mc) (ks + ms) pc L rest σ' g' Q X E) :
    W p G.1 e ρ s m args below meth c H locs kc ks (vx_MQ below (ce_Q G Q A) (ce_X G X A) args s ρ.cells ρ.slots A) (F0 m pc ls st0) := by
  intro T hT X0
  have hup := ce_A_up I
  rcases hr T hT X0 with ⟨v, st₀, t, T', Lc, h0, X', hL, e1, e2, ⟨v2, σ', g', hv, hQ, hR, hsz, hkd, hF⟩, st⟩ | ⟨q, st₀, t, T', Lc, E, ce, h0, X', hL, e1, e2, ⟨σ', g', hX, hR, hsz, hkd, hF⟩, hce, hcv, hcl, st⟩
  · cases hv
    obtain ⟨k1, k2, k3⟩ := vx_keep h0 e1 I.2.2.1 (fun q _ h => hup q h) hup hL hF
    obtain ⟨t2, a1, b1⟩ := kk v σ' g' hQ G A p e s m args below meth c T'.heap (locs ++ Lc) ls C ⟨by rw [e1]; exact hR, by rw [e1]; exact hsz, k3, I.2.2.2.1, fun q hq => hup q (hkd q hq)⟩ hl T' rfl X'
    exact ⟨t2, st t2 a1, b1⟩
  · obtain ⟨k1, k2, k3⟩ := vx_keep h0 e1 I.2.2.1 (fun q _ h => hup q h) hup hL hF
    obtain ⟨t2, a1, b1⟩ := kx E σ' g' hX G A p e s m args below meth c T'.heap (locs ++ Lc) ls ce q C ⟨by rw [e1]; exact hR, by rw [e1]; exact hsz, k3, I.2.2.2.1, fun q hq => hup q (hkd q hq)⟩ hl (by rw [e1]; exact hce) hcv hcl T' rfl X'
    exact ⟨t2, st.trans a1, b1⟩
theorem ce_join0 {G : ce_G} {A : Nat → Prop} {p : Program} {e : Env} {s : State} {m : MethodId} {args : Array Value} {below : List Frame} {meth : Method} {c : Code} {H : Heap} {locs : List Loc} {ls : Array Slot} {mc ms : Nat} {st0 rest : List Value} {a : Array Value} {Q' : Option Value → ce_S → ce_D → Prop}
    (hr : va_Run p G.1 e ρ s m args below meth c H locs kc ks mc ms (F0 m pc ls st0) rest (ce_Q G Q' (ce_A σ) a) (ce_A σ))
    (C : ce_C Y G A p s m args meth c) (I : ce_I G A s σ g H locs) (hl : ce_L ls Y.2.2.1 L)
    (kk : ∀ v σ' g', Q' v σ' g' → ce_WP ρ Y (kc + mc) (ks + ms) (pc + 3) L (v.toList ++ rest) σ' g' Q X) :
    W p G.1 e ρ s m args below meth c H locs kc ks (vx_MQ below (ce_Q G Q A) (ce_X G X A) args s ρ.cells ρ.slots A) (F0 m pc ls st0) := by
  refine ce_join (X' := ce_no) (a := a) ?_ C I hl kk (fun _ _ _ h => h.elim)
  intro T hT X0
  exact Or.inl (hr T hT X0)
/-- a method that doesn't throw, as the kit's Met -/
theorem ce_met {av : List Value} (h : ce_CT ρ Y av σ g Q ce_no) (G : ce_G) (A : Nat → Prop) : Met G.1 Y.1 (ce_ws Y) ρ (va_Pc av (ce_E G A σ g)) (ce_Q G Q A) ρ.cells ρ.slots A := by
  refine Jvm.Free.MetFree.mono (h G A) (fun _ _ h => h) (fun _ _ _ _ _ h => h) (fun a st o t _ hq => ?_)
  rcases hq with hq | ⟨q, -, E, ce, Lc, ⟨σ', g', hX, -⟩, -⟩
  · exact hq
  · exact hX.elim
/-! callees -/
def ce_pn (Y : ce_Y) (n : Nat) : Prop := Y.1.cls ≠ "java/lang/invoke/MethodHandle" ∧ Y.1.cls ≠ "java/lang/invoke/VarHandle" ∧ (parseMethodDescriptor Y.1.desc).map (fun d => d.parameters.length) = some n
def ce_MV (Y : ce_Y) (n : Nat) : Prop := ce_pn Y n ∧ Y.2.2.2.2 = [] ∧ ce_cw Y ∈ lw_tbl ∧ Cond.initialized Y.1.cls ∈ lw_tbl ∧ Cond.instanceMethod Y.1 ∈ lw_tbl ∧ Cond.selects Y.1.cls Y.1 Y.1 ∈ lw_tbl
def ce_MS (Y : ce_Y) (n : Nat) : Prop := ce_pn Y n ∧ Y.2.2.2.2 = [] ∧ ce_cw Y ∈ lw_tbl ∧ Cond.initialized Y.1.cls ∈ lw_tbl ∧ Cond.static Y.1 ∈ lw_tbl
def ce_MI (Y : ce_Y) (n : Nat) : Prop := ce_pn Y n ∧ Y.2.2.2.2 = [] ∧ ce_cw Y ∈ lw_tbl ∧ Cond.initialized Y.1.cls ∈ lw_tbl ∧ Cond.instanceMethod Y.1 ∈ lw_tbl ∧ Y.1.name = "<init>" ∧ Y.2.2.2.1 = none
theorem ce_cw_eq {Y : ce_Y} (h : Y.2.2.2.2 = []) : ce_cw Y = Cond.code Y.1 Y.2.1 Y.2.2.1 Y.2.2.2.1 := by unfold ce_cw; rw [h]
theorem ce_ws_eq {Y : ce_Y} (h : Y.2.2.2.2 = []) : ce_ws Y = Cond.code Y.1 Y.2.1 Y.2.2.1 Y.2.2.2.1 :: ce_gw := by unfold ce_ws; rw [ce_cw_eq h]
theorem ce_goodws {Y Y' : ce_Y} (hh : Y'.2.2.2.2 = []) (hc : ce_cw Y' ∈ lw_tbl) : GoodIn (ce_ws Y) (ce_ws Y') := by
  rw [ce_ws_eq hh]
  rw [ce_cw_eq hh] at hc
  intro w hw
  rcases List.mem_cons.mp hw with rfl | hw
  · exact ⟨ce_gw_in hc rfl Y, good_of_word rfl⟩
  · obtain ⟨h1, h2⟩ := List.mem_filter.mp hw
    exact ⟨ce_gw_in h1 h2 Y, good_of_word h2⟩
theorem ce_good1 {Y : ce_Y} {w : Cond} (h : w ∈ lw_tbl) (hg : goodWord w = true) : w ∈ ce_ws Y ∧ ((w.onTables && w.keeps) = true ∨ ∃ ty, w = .arrayClass ty) := ⟨ce_gw_in h hg Y, good_of_word hg⟩
abbrev ce_rm (ρ ρ' : Room) (n : Nat) : Prop := ρ'.frames + 1 ≤ ρ.frames ∧ 8 + (n + 11) + ρ'.locals ≤ ρ.locals
theorem ce_callB {Y Y' : ce_Y} {n idx : Nat} {s : State} {args : Array Value} {ρ' : Room} (hts : ∀ w ∈ ce_ws Y, w.before args s = true) (hp : ce_pn Y' n) (hh : Y'.2.2.2.2 = []) (hc : ce_cw Y' ∈ lw_tbl) (hi : Cond.initialized Y'.1.cls ∈ lw_tbl) (hl : Cond.methodLink Y.1.cls idx Y'.1 ∈ lw_tbl) (hR : ce_rm ρ ρ' Y'.2.2.1) : CallB ρ s args Y.1.cls idx Y'.1 Y'.2.1 Y'.2.2.1 Y'.2.2.2.1 (ce_ws Y') ρ' ρ'.cells ρ'.slots n :=
  callB_of n hts (ce_goodws hh hc) (ce_ws_eq hh) rfl rfl (hts _ (ce_gw_in hi rfl Y)) (hts _ (ce_gw_in hl rfl Y)) hp hR
theorem ce_callV {Y' : ce_Y} {ρ' : Room} {n idx b ci : Nat} {stk As rest : List Value} {Q' : Option Value → ce_S → ce_D → Prop} (d : decode Y.2.1 pc = .ok (.invokevirtual idx, 3)) (hY : ce_MV Y' n) (hl : Cond.methodLink Y.1.cls idx Y'.1 ∈ lw_tbl) (hC : ce_CT ρ' Y' (.ref b :: As) σ g Q' ce_no) (hst : stk = As.reverse ++ .ref b :: rest) (hn : As.length = n)
    (hb : ce_kd σ b = ci + 1) (hcn : (vwCl[ci]?).map (fun r => r.1) = some Y'.1.cls) (hR : ce_rm ρ ρ' Y'.2.2.1) (hrest : (rest.map fun v => v.category).sum ≤ 8) (hcc : kc + ρ'.cells ≤ ρ.cells) (hss : ks + ρ'.slots ≤ ρ.slots)
    (kk : ∀ v σ' g', Q' v σ' g' → ce_WP ρ Y (kc + ρ'.cells) (ks + ρ'.slots) (pc + 3) L (v.toList ++ rest) σ' g' Q X) : ce_WP ρ Y kc ks pc L stk σ g Q X := by
  intro G A p e s m args below meth c H locs ls C I hl'
  obtain ⟨hp, hh, hcw, hi, hin, hsel⟩ := hY
  obtain ⟨hx, hb', hml, hr, hlk, hown, hts, hK, hZ, hnm, htab⟩ := id C
  obtain ⟨r, hrc, hr1⟩ : ∃ r, vwCl[ci]? = some r ∧ r.1 = Y'.1.cls := by
    cases h9 : vwCl[ci]? with
    | none => rw [h9] at hcn; cases hcn
    | some r => rw [h9] at hcn; exact ⟨r, rfl, Option.some.inj hcn⟩
  obtain ⟨cell, q1, q2, q3, -⟩ := (I.1 b (by omega)).2.1 ci r hb hrc
  have hcl : s.vm.findClass Y'.1.cls = some cell.cls := by rw [q2, ← hr1]; exact (hK.1.1 ci r hrc).2.1
  refine ce_join0 (va_runV (As := As) (rest := rest) (n := n) ⟨hx, hb', hml, hown, hts⟩ (ce_met hC G (ce_A σ)) ⟨ce_callB hts hp hh hcw hi hl hR, hts _ (ce_gw_in hin rfl Y), hts _ (ce_gw_in hsel rfl Y)⟩ ⟨ce_E_blind, ⟨cell, q1, by rw [q3]; rfl, hcl⟩, fun U hU hW => ⟨rfl, ce_E_at C I hU hW⟩⟩ rfl hn hl'.1 hst (lv_room hrest) d ⟨hcc, hss⟩) C I hl' kk
theorem ce_callS {Y' : ce_Y} {ρ' : Room} {n idx : Nat} {stk As rest : List Value} {Q' : Option Value → ce_S → ce_D → Prop} (d : decode Y.2.1 pc = .ok (.invokestatic idx, 3)) (hY : ce_MS Y' n) (hl : Cond.methodLink Y.1.cls idx Y'.1 ∈ lw_tbl) (hC : ce_CT ρ' Y' As σ g Q' ce_no) (hst : stk = As.reverse ++ rest) (hn : As.length = n)
    (hR : ce_rm ρ ρ' Y'.2.2.1) (hrest : (rest.map fun v => v.category).sum ≤ 8) (hcc : kc + ρ'.cells ≤ ρ.cells) (hss : ks + ρ'.slots ≤ ρ.slots)
    (kk : ∀ v σ' g', Q' v σ' g' → ce_WP ρ Y (kc + ρ'.cells) (ks + ρ'.slots) (pc + 3) L (v.toList ++ rest) σ' g' Q X) : ce_WP ρ Y kc ks pc L stk σ g Q X := by
  intro G A p e s m args below meth c H locs ls C I hl'
  obtain ⟨hp, hh, hcw, hi, hsta⟩ := hY
  obtain ⟨hx, hb', hml, hr, hlk, hown, hts, hK, hZ, hnm, htab⟩ := id C
  exact ce_join0 (va_runS (As := As) (rest := rest) (n := n) ⟨hx, hb', hml, hown, hts⟩ (ce_met hC G (ce_A σ)) ⟨ce_callB hts hp hh hcw hi hl hR, hts _ (ce_gw_in hsta rfl Y)⟩ ⟨ce_E_blind, fun U hU hW => ⟨rfl, ce_E_at C I hU hW⟩⟩ rfl hn hl'.1 hst (lv_room hrest) d ⟨hcc, hss⟩) C I hl' kk
theorem ce_callN {Y Y' : ce_Y} {n idx : Nat} {s : State} {host : String} {args : Array Value} {G : ce_G} {ρ' : Room} (hts : ∀ w ∈ ce_ws Y, w.before args s = true) (hK : ce_K G s) (hp : ce_pn Y' n) (hh : Y'.2.2.2.2 = []) (hc : ce_cw Y' ∈ lw_tbl) (hi : Cond.initialized Y'.1.cls ∈ lw_tbl) (hl : Cond.methodLinkNest Y.1.cls idx Y'.1 host ∈ lw_tbl) (hR : ce_rm ρ ρ' Y'.2.2.1) : va_CN ρ s args Y.1.cls idx Y'.1 host Y'.2.1 Y'.2.2.1 Y'.2.2.2.1 (ce_ws Y') ρ' ρ'.cells ρ'.slots n :=
  va_cnB n hts (ce_goodws hh hc) (ce_ws_eq hh) rfl rfl (hK.2.1 _ hl rfl) (hts _ (ce_gw_in hi rfl Y)) hp hR
theorem ce_callSN {Y' : ce_Y} {ρ' : Room} {n idx : Nat} {host : String} {stk As rest : List Value} {Q' : Option Value → ce_S → ce_D → Prop} (d : decode Y.2.1 pc = .ok (.invokestatic idx, 3)) (hY : ce_MS Y' n) (hl : Cond.methodLinkNest Y.1.cls idx Y'.1 host ∈ lw_tbl) (hC : ce_CT ρ' Y' As σ g Q' ce_no) (hst : stk = As.reverse ++ rest) (hn : As.length = n)
    (hR : ce_rm ρ ρ' Y'.2.2.1) (hrest : (rest.map fun v => v.category).sum ≤ 8) (hcc : kc + ρ'.cells ≤ ρ.cells) (hss : ks + ρ'.slots ≤ ρ.slots)
    (kk : ∀ v σ' g', Q' v σ' g' → ce_WP ρ Y (kc + ρ'.cells) (ks + ρ'.slots) (pc + 3) L (v.toList ++ rest) σ' g' Q X) : ce_WP ρ Y kc ks pc L stk σ g Q X := by
  intro G A p e s m args below meth c H locs ls C I hl'
  obtain ⟨hp, hh, hcw, hi, hsta⟩ := hY
  obtain ⟨hx, hb', hml, hr, hlk, hown, hts, hK, hZ, hnm, htab⟩ := id C
  exact ce_join0 (va_runSN (host := host) (As := As) (rest := rest) (n := n) ⟨hx, hb', hml, hown, hts⟩ (ce_met hC G (ce_A σ)) ⟨ce_callN hts hK hp hh hcw hi hl hR, hts _ (ce_gw_in hsta rfl Y), trivial⟩ ⟨ce_E_blind, fun U hU hW => ⟨rfl, ce_E_at C I hU hW⟩⟩ rfl hn hl'.1 hst (lv_room hrest) d ⟨hcc, hss⟩) C I hl' kk
theorem ce_callI {Y' : ce_Y} {ρ' : Room} {n idx b : Nat} {stk As rest : List Value} {Q' : Option Value → ce_S → ce_D → Prop} (d : decode Y.2.1 pc = .ok (.invokespecial idx, 3)) (hY : ce_MI Y' n) (hl : Cond.methodLink Y.1.cls idx Y'.1 ∈ lw_tbl) (hC : ce_CT ρ' Y' (.ref b :: As) σ g Q' ce_no) (hst : stk = As.reverse ++ .ref b :: rest) (hn : As.length = n)
    (hR : ce_rm ρ ρ' Y'.2.2.1) (hrest : (rest.map fun v => v.category).sum ≤ 8) (hcc : kc + ρ'.cells ≤ ρ.cells) (hss : ks + ρ'.slots ≤ ρ.slots)
    (kk : ∀ v σ' g', Q' v σ' g' → ce_WP ρ Y (kc + ρ'.cells) (ks + ρ'.slots) (pc + 3) L (v.toList ++ rest) σ' g' Q X) : ce_WP ρ Y kc ks pc L stk σ g Q X := by
  intro G A p e s m args below meth c H locs ls C I hl'
  obtain ⟨hp, hh, hcw, hi, hin, hnm1, hret⟩ := hY
  obtain ⟨hx, hb', hml, hr, hlk, hown, hts, hK, hZ, hnm, htab⟩ := id C
  have hcb := ce_callB hts hp hh hcw hi hl hR
  rw [hret] at hcb
  exact ce_join0 (va_runI (As := As) (rest := rest) (n := n) ⟨hx, hb', hml, hown, hts⟩ (ce_met hC G (ce_A σ)) ⟨hcb, hnm1, hts _ (ce_gw_in hin rfl Y)⟩ ⟨ce_E_blind, fun U hU hW => ⟨rfl, ce_E_at C I hU hW⟩⟩ rfl hn hl'.1 hst (lv_room hrest) d ⟨hcc, hss⟩) C I hl' kk
theorem ce_callIN {Y' : ce_Y} {ρ' : Room} {n idx b : Nat} {host : String} {stk As rest : List Value} {Q' : Option Value → ce_S → ce_D → Prop} (d : decode Y.2.1 pc = .ok (.invokespecial idx, 3)) (hY : ce_MI Y' n) (hl : Cond.methodLinkNest Y.1.cls idx Y'.1 host ∈ lw_tbl) (hC : ce_CT ρ' Y' (.ref b :: As) σ g Q' ce_no) (hst : stk = As.reverse ++ .ref b :: rest) (hn : As.length = n)
    (hR : ce_rm ρ ρ' Y'.2.2.1) (hrest : (rest.map fun v => v.category).sum ≤ 8) (hcc : kc + ρ'.cells ≤ ρ.cells) (hss : ks + ρ'.slots ≤ ρ.slots)
    (kk : ∀ v σ' g', Q' v σ' g' → ce_WP ρ Y (kc + ρ'.cells) (ks + ρ'.slots) (pc + 3) L (v.toList ++ rest) σ' g' Q X) : ce_WP ρ Y kc ks pc L stk σ g Q X := by
  intro G A p e s m args below meth c H locs ls C I hl'
  obtain ⟨hp, hh, hcw, hi, hin, hnm1, hret⟩ := hY
  obtain ⟨hx, hb', hml, hr, hlk, hown, hts, hK, hZ, hnm, htab⟩ := id C
  have hcb := ce_callN hts hK hp hh hcw hi hl hR
  rw [hret] at hcb
  exact ce_join0 (va_runIN (host := host) (As := As) (rest := rest) (n := n) ⟨hx, hb', hml, hown, hts⟩ (ce_met hC G (ce_A σ)) ⟨hcb, hnm1, hts _ (ce_gw_in hin rfl Y)⟩ ⟨ce_E_blind, fun U hU hW => ⟨rfl, ce_E_at C I hU hW⟩⟩ rfl hn hl'.1 hst (lv_room hrest) d ⟨hcc, hss⟩) C I hl' kk
theorem ce_gtest : goodWord (Cond.native yJ9_min_7cf53) = true ∧ goodWord (Cond.arrayClass .int) = true ∧ goodWord (Cond.classLink "a" 1 "b") = true ∧ goodWord (Cond.instantiable "a" 1) = true := ⟨rfl, rfl, rfl, rfl⟩
end CEE
