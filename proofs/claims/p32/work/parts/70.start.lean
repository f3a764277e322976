/-! THE CLAIM OUT OF ONE WALK OF THE LAW'S BODY. Your part is whole_start (and what it stands on); all else here is the same for every law, but numbers. -/
def R_law : String := "CellarClubLaw"
def lw_P (b : Addr) (xs : List Int32) (args : Array Value) (s : State) : Prop := args = #[.ref b] ∧ s.IntsAt b xs ∧ xs.length ≤ 260 ∧ (Jvm.Cond.and given_1 narrow_1).before args s = true
def lw_Q (_ : Array Value) (s : State) (o : Outcome) (t : State) : Prop := o = .returned (some (.int 1)) ∧ Framed s o t [] 600104 7301314
def lw_Z (below : List Frame) (a : Array Value) (s : State) : State → Prop := fun t => ∃ o, t.status = .running ∧ Ended t below o ∧ lw_Q a s o t
/-- the law's own end, with 1 on the stack, nothing written that was there before, its room as the claim has it -/
theorem lw_ret {p : Program} {l : Launch} {e : Env} {s : State} {m : MethodId} {below : List Frame} {meth : Method} {c : Code} {b : Nat} (hx : p.tables.exec = Jvm.exec) (hb : c.code = code) (hr : meth.sig.returnType = ret) (hlocks : meth.locks = false) {pc : Nat} {H : Heap} {ls : Array Slot} (hdg : decode code pc = .ok (.ireturn, 1)) : W p l e room_1 s m #[Value.ref b] below meth c H [] 600104 7301314 (lw_Z below #[Value.ref b] s) (F0 m pc ls [.int 1]) := by
  intro T hT X
  obtain ⟨fs, hret, hrun, hended, hW, hframe⟩ := X.leave (v := some (.int 1)) (hlocks := hlocks) (fun h => by rw [hr] at h; cases h)
  have hmeth' : T.vm.method? m = some meth := X.method'
  refine ⟨T.setFrames fs, ?_, .returned (some (.int 1)), hrun, hended, rfl, ⟨_, rfl⟩, hW, hframe⟩
  jvm_step X.here [X.here.top, hx, hb, hdg, hmeth', hr, ret, narrow_b1]
  (try refine ⟨rfl, ?_⟩); (try refine ⟨rfl, ?_⟩)
  first | (intro acts; rw [hret _ acts rfl rfl rfl]) | rw [hret _ _ rfl rfl rfl]
  exact Steps.refl _
/-- what holds at the law's entry: the machine, the code, the tables' words (any of lw_tbl by 'hts w (by decide +kernel)'), the script of L ints xs at the cell b, what the Statement gives of the start (any of its parts by flat_of_before) -/
def lw_At (p : Program) (s : State) (m : MethodId) (meth : Method) (c : Code) (b L : Nat) (xs : Nat → Int32) : Prop :=
  p.tables.exec = Jvm.exec ∧ c.code = code ∧ meth.sig.returnType = ret ∧ c.maxLocals = 7 ∧ s.vm.findClass R_law = some m.cls ∧ (∀ w ∈ lw_tbl, w.before #[Value.ref b] s = true) ∧ va_X b L xs s s.heap ∧ b < s.heap.size ∧ meth.locks = false ∧ (Jvm.Cond.and given_1 narrow_1).before #[Value.ref b] s = true
theorem ce_inst : ∀ (ci : Nat) (r : vw_C), vwCl[ci]? = some r → Cond.instantiable r.1 r.2.2 ∈ lw_tbl
  | 0, _, h => by cases h; exact wi_X0
  | 1, _, h => by cases h; exact wi_X1
  | 2, _, h => by cases h; exact wi_X2
  | 3, _, h => by cases h; exact wi_X3
  | 4, _, h => by cases h; exact wi_X4
  | 5, _, h => by cases h; exact wi_X5
  | 6, _, h => by cases h; exact wi_X6
  | 7, _, h => by cases h; exact wi_X7
  | 8, _, h => by cases h; exact wi_X0
  | n + 9, _, h => by simp [vwCl] at h
theorem ce_ao : Cond.arrayOver (.object "CellarClub$Club") ∈ lw_tbl := ce_t (i := 158) (by decide +kernel)
theorem ce_wK {s : State} {m : MethodId} {b : Addr} (l : Launch) (hflags : l.flags = flags0) (hts : ∀ w ∈ lw_tbl, w.before #[Value.ref b] s = true) (hgv : (Jvm.Cond.and given_1 narrow_1).before #[Value.ref b] s = true) : ∃ G : ce_G, G.1 = l ∧ ce_K G s := by
  have H : ∀ c : Nat, ∃ z : ClassId × (Nat → Nat), ∀ q, vwCl[c]? = some q → u_Kn s q.1 q.2.1 q.2.2 z.1 z.2 := fun c => by
    cases hc : vwCl[c]? with
    | none => exact ⟨(m.cls, fun _ => 0), fun q h => by cases h⟩
    | some q =>
      obtain ⟨cC, iS, h⟩ := u_known hts (ce_cls c q hc).2.2 (hts _ (ce_inst c q hc))
      exact ⟨(cC, iS), fun q' h' => by cases h'; exact h⟩
  obtain ⟨fC, hC⟩ := Classical.axiomOfChoice H
  obtain ⟨aI, kI, cI, i1, i2, i3⟩ := Cond.arrayClass_spec (hts _ wa_int)
  obtain ⟨aC, kC, cC, c1, c2, c3⟩ := Cond.arrayClass_spec (hts _ wa_char)
  obtain ⟨aZ, kZ, cZ, z1, z2, z3⟩ := Cond.arrayClass_spec (hts _ wa_boolean)
  obtain ⟨aJ, kJ, cJ, j1, j2, j3⟩ := Cond.arrayClass_spec (hts _ wa_long)
  obtain ⟨comp, aO, kO, o1, o2, o3, o4, o5⟩ := Cond.arrayOver_spec (hts _ ce_ao)
  have nc : ∀ C T : String, Cond.not (.castable C T) ∈ flatC (Jvm.Cond.and given_1 narrow_1) → va_Nc C T s := fun C T h => va_Nc.of (flat_of_before _ hgv _ h)
  obtain ⟨f, hf⟩ : ∃ f : Nat → ClassId, f 0 = aI ∧ f 1 = aC ∧ f 2 = aZ ∧ f 3 = aO ∧ f 4 = aJ := ⟨fun k => if k = 0 then aI else if k = 1 then aC else if k = 2 then aZ else if k = 3 then aO else aJ, rfl, rfl, rfl, rfl, rfl⟩
  have h7 := hC 7 _ rfl
  refine ⟨(l, (fun c => (fC c).1, fun c => (fC c).2), f), rfl, ⟨fun c q h => hC c q h, fun k q h => ?_⟩, fun w hw hn => va_Nw.of (ce_tabs_same hn) (hts w hw), fun q hq => ?_, fun x hx y hy hn => ?_, ?_, va_AO.of (hts _ ce_ao)⟩
  · obtain ⟨f0, f1, f2, f3, f4⟩ := hf
    match k, h with
    | 0, h =>
      cases h
      exact ⟨fun n z => ⟨fun k h => (by cases h), kI, by show s.vm.classes[f 0]? = some kI; rw [f0]; exact i2, cI, i3⟩, by show s.vm.findClass _ = some (f 0); rw [f0]; exact i1⟩
    | 1, h =>
      cases h
      exact ⟨fun n z => ⟨fun k h => (by cases h), kC, by show s.vm.classes[f 1]? = some kC; rw [f1]; exact c2, cC, c3⟩, by show s.vm.findClass _ = some (f 1); rw [f1]; exact c1⟩
    | 2, h =>
      cases h
      exact ⟨fun n z => ⟨fun k h => (by cases h), kZ, by show s.vm.classes[f 2]? = some kZ; rw [f2]; exact z2, cZ, z3⟩, by show s.vm.findClass _ = some (f 2); rw [f2]; exact z1⟩
    | 3, h =>
      cases h
      exact ⟨fun n z => ⟨fun k h => (by cases h), kO, by show s.vm.classes[f 3]? = some kO; rw [f3]; exact o3, comp, o4⟩, ⟨kO, comp, by show s.vm.classes[f 3]? = some kO; rw [f3]; exact o3, o4, o1, by show s.vm.findClass _ = some (f 3); rw [f3]; exact o5⟩⟩
    | 4, h =>
      cases h
      exact ⟨fun n z => ⟨fun k h => (by cases h), kJ, by show s.vm.classes[f 4]? = some kJ; rw [f4]; exact j2, cJ, j3⟩, by show s.vm.findClass _ = some (f 4); rw [f4]; exact j1⟩
    | k + 5, h => simp [ce_tys] at h
  · have key : ∀ (k : Nat) (tx : String), Cond.stringRef "CellarClub" k tx ∈ lw_tbl → ∃ a, vk_R "CellarClub" k tx a s := fun k tx hw => by
      have h0 : (Cond.stringRef "CellarClub" k tx).before #[] s = true := hts _ hw
      obtain ⟨_, _, _, a, _, _, _, _, _, he⟩ := Cond.stringRef_spec (show s.vm.findClass "CellarClub" = some _ from h7.2.1) h0
      exact ⟨a, h0, he⟩
    have hq : q = ("CellarClub", 266, "no such member, wine, bin or save slot") ∨ q = ("CellarClub", 273, "an argument is out of its range") ∨ q = ("CellarClub", 278, "the present state does not allow this") := by simpa [ce_strs] using hq
    rcases hq with rfl | rfl | rfl
    · exact key _ _ (ce_t (i := 352) (by decide +kernel))
    · exact key _ _ (ce_t (i := 388) (by decide +kernel))
    · exact key _ _ (ce_t (i := 404) (by decide +kernel))
  · have hx : x = "java/lang/IndexOutOfBoundsException" ∨ x = "java/lang/IllegalArgumentException" ∨ x = "java/lang/IllegalStateException" := by simpa [ce_xs] using hx
    have hy : y = "java/lang/IndexOutOfBoundsException" ∨ y = "java/lang/IllegalArgumentException" ∨ y = "java/lang/IllegalStateException" := by simpa [ce_xs] using hy
    rcases hx with rfl | rfl | rfl <;> rcases hy with rfl | rfl | rfl <;> first | exact absurd rfl hn | exact nc _ _ (by decide +kernel)
  · show (!l.flags.contains Jvm.noTraceFlag) = false
    rw [hflags]
    decide +kernel
set_option maxHeartbeats 2000000 in
set_option maxRecDepth 20000 in
theorem whole_start {p : Program} {e : Env} {s : State} {m : MethodId} {below : List Frame} {meth : Method} {c : Code} (l : Launch) (hflags : l.flags = flags0) {b L : Nat} {xs : Nat → Int32} (hL : L ≤ 260) (C0 : lw_At p s m meth c b L xs) : W p l e room_1 s m #[Value.ref b] below meth c s.heap [] 0 0 (lw_Z below #[Value.ref b] s) (entryFrame m ([Value.ref b] : List Value).toArray 7) := by
  obtain ⟨hx, hb, hr, hml, hown, hts, hX, hbl, hlocks, hgv⟩ := id C0
  have hA : ∀ q : Nat, q < s.heap.size → ¬ (fun q : Nat => s.heap.size ≤ q) q := fun q h => Nat.not_le.mpr h
  obtain ⟨G, rfl, hK⟩ := ce_wK (m := m) l hflags hts hgv
  have hZ : ce_Z (fun q : Nat => s.heap.size ≤ q) s s.heap := ⟨vx_Zqof (hts _ (ce_t (i := 338) (by decide +kernel))) (hts _ (ce_t (i := 9) (by decide +kernel))) (flat_of_before _ hgv _ (by decide +kernel)) hA, vx_Zqof (hts _ (ce_t (i := 340) (by decide +kernel))) (hts _ (ce_t (i := 9) (by decide +kernel))) (flat_of_before _ hgv _ (by decide +kernel)) hA⟩
  have CL : ce_CL mL_law G (fun q : Nat => s.heap.size ≤ q) p s m #[Value.ref b] meth c := ⟨hx, hb, hml, hr, hlocks, hown, fun w hw => by
    rcases List.mem_cons.mp hw with rfl | hw
    · exact hts _ hL_draw.2.2.1
    · exact hts _ (List.mem_filter.mp hw).1, hK, hZ⟩
  have I0 : ce_I G (fun q : Nat => s.heap.size ≤ q) s (s.heap.size, fun _ => 0, fun _ => 0, fun _ _ => none, fun _ _ => 0) (fun _ _ => 0) s.heap [] := ⟨fun a h => absurd rfl h, rfl, va_S.rf, fun q hq => hq, fun q hq => absurd rfl hq⟩
  have hl := ce_L_entry [Value.ref b] (n := 7) (Nat.le_of_ble_eq_true rfl)
  rw [lg_entry_eq]
  exact law_0 CL hX hbl (hA b hbl) (by omega) (Z := lw_Z below #[Value.ref b] s) (fun kz σ g L h1 H locs ls I _ => va_forget (fun q hq => I.2.2.1.2.2 q hq) (W.widen (show 1000 + kz ≤ 600104 by omega) (show 12000 + 6 * kz ≤ 7301314 by omega) (lw_ret hx hb hr hlocks dL_law_296))) _ _ s.heap [] _ I0 hl
set_option maxHeartbeats 4000000 in
theorem lw_walk (l : Launch) (hflags : l.flags = flags0) (b : Addr) (xs : List Int32) : MetFree l x (headSpec (Jvm.Cond.code x code maxLocals ret :: tables_1) room_1) (lw_P b xs) (fun _ _ _ _ _ => True) lw_Q := by
  refine MetFree.of_bodyS (code := code) (maxLocals := maxLocals) (ret := ret) (by decide) ?_ ?_
  · intro args s m h hn
    obtain ⟨meth, c, h1, h2, h3, h4, h5, h6, -, -⟩ := Cond.code_spec hn (atoms_spec (ws := Jvm.Cond.code x code maxLocals ret :: tables_1) h _ List.mem_cons_self)
    exact ⟨meth, c, h1, h2, h3, h4, h5, h6⟩
  · intro p e s m args below meth c s₁ B hml0 hP _
    obtain ⟨rfl, hx, hbd, hgv⟩ := hP
    obtain ⟨scr, harrAt, hlist, hof, hsmall⟩ := hx
    obtain ⟨hcb, hkn, -, -⟩ := State.arrayAt?_spec harrAt
    have hown : s.vm.findClass R_law = some m.cls := findClass_of_methodNamed B.named
    have hts0 : ∀ c ∈ (Jvm.Cond.code x code maxLocals ret :: tables_1), c.before #[Value.ref b] s = true := atoms_spec (ws := Jvm.Cond.code x code maxLocals ret :: tables_1) B.pre
    have hts : ∀ w ∈ lw_tbl, w.before #[Value.ref b] s = true := k2_hts_sels lw_privs (fun w hw => hts0 w (List.mem_cons_of_mem _ hw)) lw_privs_ok
    have hml : c.maxLocals = 7 := B.maxLocals_eq (hts0 _ List.mem_cons_self)
    have X₀ : Stand p l e room_1 s m #[Value.ref b] below meth c s₁ [] 0 0 := Stand.of_body B
    have hh0 : s₁.heap = s.heap := by rw [B.state]; rfl
    have hsz : scr.slots.size = xs.length := by rw [← Array.length_toList, hlist, List.length_map]
    have hval : ∀ j : Nat, j < xs.length → scr.slots[j]? = some (.int (xs.getD j 0)) := fun j hj => by
      rw [← Array.getElem?_toList, hlist]
      simp [hj]
    have hbl : b < s.heap.size := (Array.getElem?_eq_some_iff.mp hcb).1
    have hX : va_X b xs.length (fun j => xs.getD j 0) s s.heap := ⟨scr, hcb, hof, hkn, hsz, hval⟩
    have K : W p l e room_1 s m #[Value.ref b] below meth c s₁.heap [] 0 0 (lw_Z below #[Value.ref b] s) (entryFrame m ([Value.ref b] : List Value).toArray 7) := by
      rw [hh0]
      exact whole_start l hflags hbd ⟨B.exec, B.bytes, B.returns, hml, hown, hts, hX, hbl, B.notSynchronized, hgv⟩
    obtain ⟨t, a1, o, b1, b2, b3⟩ := K s₁ rfl X₀
    exact ⟨t, o, a1, b1, b2, b3⟩
theorem lw_pre_spec {args : Array Value} {s : State} (h : (Jvm.Cond.and given_1 narrow_1).before args s = true) (hr : rest_1_c.before args s = true) : ∃ (b : Addr) (xs : List Int32), lw_P b xs args s := by
  have hs := flat_of_before _ h
  have hq := flat_of_before _ hr
  have hc : (Cond.count 1).before args s = true := hs _ (by decide +kernel)
  have harr : (Cond.arrayOf (.arg 0) .int).before args s = true := hs _ (by decide +kernel)
  have hle : (Cond.le (.length (.arg 0)) (.int 260)).before args s = true := hs _ (by decide +kernel)
  have hlen : (Cond.isInt (.length (.arg 0))).before args s = true := hq _ (by decide +kernel)
  have hall : (Cond.all (.arg 0) (.isInt (.elem (.arg 0) (.index 0)))).before args s = true := hq _ (by decide +kernel)
  obtain ⟨b, xs, hb, hx⟩ := State.ints_of_pre rfl harr hlen hall
  have hsm : xs.length < 2 ^ 31 := hx.choose_spec.2.2.2
  have hev : (Term.length (.arg 0)).eval args s none [] s = some (.int xs.length.toInt32) := hx.length_eval hb
  have hv := Cond.le_ints hev (show (Term.int 260).eval args s none [] s = some (.int 260) from rfl)
  have hd : xs.length.toInt32 ≤ 260 := by
    simpa [Cond.before, Cond.holds, hv] using hle
  have hN : xs.length ≤ 260 := (Int32.ofNat_le_ofNat hsm (by decide)).mp (show Int32.ofNat xs.length ≤ Int32.ofNat 260 from hd)
  exact ⟨b, xs, Cond.one_arg hc (show args[0]? = some (.ref b) from hb), hx, hN, h⟩
theorem lw_comes (l : Launch) (hflags : l.flags = flags0) : Comes l x (Jvm.Cond.code x code maxLocals ret :: tables_1) room_1 (fun tb e args s => Calls_1 tb e args s ∧ rest_1 tb e args s ∧ Pre_1 tb e args s)
    (fun _ _ args s o t => lw_Q args s o t) := by
  intro p e ha hc hk s m args below hf hfit hheap happ hpre
  obtain ⟨b, xs, hP⟩ := lw_pre_spec hpre.2.2 hpre.2.1
  obtain ⟨k, o, h1, h2, h3, hQ⟩ := lw_walk l hflags b xs p e ha hc hk s m args below hf ((Spec.applies_iff_loose hf).mp happ).1 hP trivial
  exact ⟨k, o, h1, h2, h3, hQ⟩
theorem lw_frame {s t : State} {o : Outcome} {args : Array Value} (h : Framed s o t [] 600104 7301314) :
    Framed s o t (fieldLocs frame_1_writes args s ++ arrayLocs frame_1_arrays args s ++ staticLocs frame_1_statics s) 600104 7301314 := h
theorem lw_limb (L : Cond) (hL : ∀ (args : Array Value) (s t : State), L.after args s (.returned (some (.int 1))) t = true) :
    ArmFor flags0 classFile x code maxLocals ret World_1 tables_1 room_1 Calls_1 rest_1 Pre_1
      (fun tb e a s o t => postC L tb e a s o t ∧ Framed s o t (fieldLocs frame_1_writes a s ++ arrayLocs frame_1_arrays a s ++ staticLocs frame_1_statics s) 600104 7301314) := by
  intro l hflags _ _ p e ha hc hk s m args below hf hfit hheap happ hpre
  obtain ⟨k, o, h1, h2, h3, rfl, hF⟩ := lw_comes l hflags p e ha hc hk s m args below hf hfit hheap happ hpre
  exact ⟨k, _, h1, h2, h3, hL args s _, lw_frame hF⟩
theorem i_vc : Claimed_1_1 ∧ Claimed_1_2 := ⟨lw_limb limb_1_1 (fun args s t => by simp [limb_1_1, Cond.after, Cond.holds, Cond.value]), lw_limb limb_1_2 (fun args s t => Cond.after_iff.mpr (by
  first | (rw [show limb_1_2 = Cond.eq .result (.int 1) from rfl, Cond.eq_ints (x := 1) (y := 1) rfl rfl]; simp; done) | (simp [limb_1_2, Cond.value, Term.eval]; done)))⟩
