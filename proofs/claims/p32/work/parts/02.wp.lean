/-! Our own layer over the kit's W: one store for all objects, a predicate WP at a pc, contracts CT, a row an instruction. -/
section CEA
/-- what stays: the launch, the classes' ids and slots, the array classes' ids (int, char, boolean, Club[], long) -/
abbrev ce_G : Type := Launch × va_G × (Nat → ClassId)
/-- the store's slow part: heap's size, kinds (0: not ours; 1..9: object of vwCl[k-1]; 10 int[], 11 char[], 12 boolean[], 13 Club[], 14 long[]), lengths, references, longs -/
abbrev ce_S : Type := Nat × (Nat → Nat) × (Nat → Nat) × (Nat → Nat → Option Nat) × (Nat → Nat → Int64)
/-- the store's ints -/
abbrev ce_D : Type := Nat → Nat → Int32
abbrev ce_tp (σ : ce_S) : Nat := σ.1
abbrev ce_kd (σ : ce_S) : Nat → Nat := σ.2.1
abbrev ce_ln (σ : ce_S) : Nat → Nat := σ.2.2.1
abbrev ce_gr (σ : ce_S) : Nat → Nat → Option Nat := σ.2.2.2.1
abbrev ce_gl (σ : ce_S) : Nat → Nat → Int64 := σ.2.2.2.2
/-- a method: name, code, locals, answer's type, handlers -/
abbrev ce_Y : Type := MethodName × ByteArray × Nat × Option FieldType × List (Nat × Nat × Nat × Nat)
def ce_rty (ci k : Nat) : Bool := match vwCl[ci]? with
  | some (_, T, _) => match parseFieldDescriptor (T k).2.2.1 with
    | some (.object _) => true
    | some (.array _) => true
    | _ => false
  | none => false
def ce_fv (σ : ce_S) (g : ce_D) (ci a k : Nat) : Value := if ce_rty ci k then va_rf (ce_gr σ a k) else .int (g a k)
def ce_cell (G : ce_G) (σ : ce_S) (g : ce_D) (H : Heap) (a : Nat) : Prop :=
  (∀ (ci : Nat) (r : vw_C), ce_kd σ a = ci + 1 → vwCl[ci]? = some r → t_OB a (G.2.1.1 ci) r.2.2 (G.2.1.2 ci) H (ce_fv σ g ci a)) ∧
  (ce_kd σ a = 10 → H[a]? = some (arrV (G.2.2 0) (ce_ln σ a) (fun j => .int (g a j)))) ∧
  (ce_kd σ a = 11 → H[a]? = some (arrV (G.2.2 1) (ce_ln σ a) (fun j => .int (g a j)))) ∧
  (ce_kd σ a = 12 → H[a]? = some (arrV (G.2.2 2) (ce_ln σ a) (fun j => .int (g a j)))) ∧
  (ce_kd σ a = 13 → H[a]? = some (arrV (G.2.2 3) (ce_ln σ a) (fun j => va_rf (ce_gr σ a j)))) ∧
  (ce_kd σ a = 14 → H[a]? = some (arrV (G.2.2 4) (ce_ln σ a) (fun j => .long (ce_gl σ a j))))
def ce_R (G : ce_G) (σ : ce_S) (g : ce_D) (H : Heap) : Prop := ∀ a : Nat, ce_kd σ a ≠ 0 → ce_kd σ a ≤ 14 ∧ ce_cell G σ g H a
def ce_tys (G : ce_G) : List (ClassId × FieldType) := [(G.2.2 0, .int), (G.2.2 1, .char), (G.2.2 2, .boolean), (G.2.2 3, .object "CellarClub$Club"), (G.2.2 4, .long)]
/-- words that hold of every later state, but are none of the kit's 'good' ones -/
def ce_nest : Cond → Bool
  | .fieldLinkNest _ _ _ _ _ _ => true
  | .methodLinkNest _ _ _ _ => true
  | .declares _ => true
  | .castable _ _ => true
  | _ => false
def ce_strs : List (String × Nat × String) := [("CellarClub", 266, "no such member, wine, bin or save slot"), ("CellarClub", 273, "an argument is out of its range"), ("CellarClub", 278, "the present state does not allow this")]
def ce_xs : List String := ["java/lang/IndexOutOfBoundsException", "java/lang/IllegalArgumentException", "java/lang/IllegalStateException"]
def ce_K (G : ce_G) (U : State) : Prop :=
  va_K G.2.1 vwCl (ce_tys G) U ∧ (∀ w ∈ lw_tbl, ce_nest w = true → va_Nw w U) ∧ (∀ q ∈ ce_strs, ∃ a, vk_R q.1 q.2.1 q.2.2 a U) ∧
  (∀ x ∈ ce_xs, ∀ y ∈ ce_xs, x ≠ y → va_Nc x y U) ∧ G.1.stackTraces = false ∧ va_AO "CellarClub$Club" U
def ce_Z (A : Nat → Prop) (U : State) (H : Heap) : Prop := vx_Zq Bundle.tN "UNASSIGNED_STACK" Bundle.steD A U H ∧ vx_Zq Bundle.tN "SUPPRESSED_SENTINEL" Bundle.listD A U H
def ce_gw : List Cond := lw_tbl.filter goodWord
def ce_cw (Y : ce_Y) : Cond := match Y.2.2.2.2 with
  | [] => .code Y.1 Y.2.1 Y.2.2.1 Y.2.2.2.1
  | hh => .codeWith Y.1 Y.2.1 Y.2.2.1 Y.2.2.2.1 hh
def ce_ws (Y : ce_Y) : List Cond := ce_cw Y :: ce_gw
theorem ce_gw_in {w : Cond} (h : w ∈ lw_tbl) (hg : goodWord w = true) (Y : ce_Y) : w ∈ ce_ws Y := List.mem_cons_of_mem _ (List.mem_filter.mpr ⟨h, hg⟩)
/-- what holds in a method's frame -/
def ce_C (Y : ce_Y) (G : ce_G) (A : Nat → Prop) (p : Program) (s : State) (m : MethodId) (args : Array Value) (meth : Method) (c : Code) : Prop :=
  p.tables.exec = Jvm.exec ∧ c.code = Y.2.1 ∧ c.maxLocals = Y.2.2.1 ∧ meth.sig.returnType = Y.2.2.2.1 ∧ meth.locks = false ∧ s.vm.findClass Y.1.cls = some m.cls ∧ (∀ w ∈ ce_ws Y, w.before args s = true) ∧
  ce_K G s ∧ ce_Z A s s.heap ∧ meth.name = Y.1.name ∧ c.exceptionTable.toList = tableOf Y.2.2.2.2
def ce_I (G : ce_G) (A : Nat → Prop) (s : State) (σ : ce_S) (g : ce_D) (H : Heap) (locs : List Loc) : Prop :=
  ce_R G σ g H ∧ H.size = ce_tp σ ∧ va_S A s.heap H locs ∧ (∀ q, s.heap.size ≤ q → A q) ∧ (∀ q, ce_kd σ q ≠ 0 → A q)
/-- the locals -/
def ce_L (ls : Array Slot) (n : Nat) (L : List (Option Value)) : Prop := ls.size = n ∧ lv_wf ls ∧ L.length = n ∧ ∀ (i : Nat) (v : Value), L[i]? = some (some v) → ls[i]? = some (.val v)
def ce_E (G : ce_G) (A : Nat → Prop) (σ : ce_S) (g : ce_D) (U : State) : Prop := ce_R G σ g U.heap ∧ U.heap.size = ce_tp σ ∧ (∀ q, ce_tp σ ≤ q → A q) ∧ (∀ q, ce_kd σ q ≠ 0 → A q) ∧ ce_K G U ∧ ce_Z A U U.heap
def ce_Q (G : ce_G) (Q : Option Value → ce_S → ce_D → Prop) (A : Nat → Prop) : Array Value → State → Outcome → State → Prop := fun _ st o t =>
  ∃ (v : Option Value) (σ : ce_S) (g : ce_D), o = .returned v ∧ Q v σ g ∧ ce_R G σ g t.heap ∧ t.heap.size = ce_tp σ ∧ (∀ q, ce_kd σ q ≠ 0 → A q) ∧ va_F A st t
def ce_X (G : ce_G) (X : String → ce_S → ce_D → Prop) (A : Nat → Prop) : String → State → State → Prop := fun E st t =>
  ∃ (σ : ce_S) (g : ce_D), X E σ g ∧ ce_R G σ g t.heap ∧ t.heap.size = ce_tp σ ∧ (∀ q, ce_kd σ q ≠ 0 → A q) ∧ va_F A st t
/-- at pc, with these locals, this stack, this store: the method ends, as Q says, or throws, as X says -/
def ce_WP (ρ : Room) (Y : ce_Y) (kc ks pc : Nat) (L : List (Option Value)) (st : List Value) (σ : ce_S) (g : ce_D) (Q : Option Value → ce_S → ce_D → Prop) (X : String → ce_S → ce_D → Prop) : Prop :=
  ∀ (G : ce_G) (A : Nat → Prop) (p : Program) (e : Env) (s : State) (m : MethodId) (args : Array Value) (below : List Frame) (meth : Method) (c : Code) (H : Heap) (locs : List Loc) (ls : Array Slot),
    ce_C Y G A p s m args meth c → ce_I G A s σ g H locs → ce_L ls Y.2.2.1 L →
    W p G.1 e ρ s m args below meth c H locs kc ks (vx_MQ below (ce_Q G Q A) (ce_X G X A) args s ρ.cells ρ.slots A) (F0 m pc ls st)
/-- .. with an exception of class E thrown there -/
def ce_WX (ρ : Room) (Y : ce_Y) (kc ks pc : Nat) (L : List (Option Value)) (st : List Value) (σ : ce_S) (g : ce_D) (Q : Option Value → ce_S → ce_D → Prop) (X : String → ce_S → ce_D → Prop) (E : String) : Prop :=
  ∀ (G : ce_G) (A : Nat → Prop) (p : Program) (e : Env) (s : State) (m : MethodId) (args : Array Value) (below : List Frame) (meth : Method) (c : Code) (H : Heap) (locs : List Loc) (ls : Array Slot) (ce : Cell) (q : Addr),
    ce_C Y G A p s m args meth c → ce_I G A s σ g H locs → ce_L ls Y.2.2.1 L → H[q]? = some ce → ce.vm = .none → s.vm.findClass E = some ce.cls →
    vx_W p G.1 e ρ s m args below meth c H locs kc ks (vx_MQ below (ce_Q G Q A) (ce_X G X A) args s ρ.cells ρ.slots A) (F0 m pc ls st) q
/-- a method's contract -/
def ce_CT (ρ : Room) (Y : ce_Y) (av : List Value) (σ : ce_S) (g : ce_D) (Q : Option Value → ce_S → ce_D → Prop) (X : String → ce_S → ce_D → Prop) : Prop :=
  ∀ (G : ce_G) (A : Nat → Prop), vx_Met G.1 Y.1 (ce_ws Y) ρ (va_Pc av (ce_E G A σ g)) (ce_Q G Q A) (ce_X G X A) ρ.cells ρ.slots A
def ce_A (σ : ce_S) : Nat → Prop := fun q => ce_kd σ q ≠ 0 ∨ ce_tp σ ≤ q
abbrev ce_no : String → ce_S → ce_D → Prop := fun _ _ _ => False
/-! what is kept -/
theorem ce_tabs_same {w : Cond} (h : ce_nest w = true) : w.onTables = true := by
  cases w <;> first | rfl | cases h
theorem ce_K_warm {G : ce_G} {s U : State} (hW : s.WarmedH U.vm) (h : ce_K G s) : ce_K G U := by
  obtain ⟨h1, h2, h3, h4, h5, h6⟩ := h
  refine ⟨va_K.moved hW.alike h1, fun w hw hn => ?_, fun q hq => ?_, fun x hx y hy hn => va_Nc.moved hW.alike (h4 x hx y hy hn), h5, va_AO.moved hW.alike h6⟩
  · have h9 := h2 w hw hn
    cases w <;> first | exact va_Nw.warmF hW h9 | exact va_Nw.warmM hW h9 | exact va_Nw.warmD hW h9 | exact va_Nw.warmC hW h9 | cases hn
  · obtain ⟨a, ha⟩ := h3 q hq
    exact ⟨a, vk_R.warm hW ha⟩
theorem ce_K_same {G : ce_G} {s U : State} (hv : s.vm = U.vm) (h : ce_K G s) : ce_K G U := by
  have hW : s.WarmedH U.vm := by rw [← hv]; exact State.WarmedH.refl s
  exact ce_K_warm hW h
theorem ce_Z_moved {A : Nat → Prop} {u U : State} {H : Heap} (hvm : u.vm.Alike U.vm) (h : ce_Z A u H) : ce_Z A U H := ⟨vx_Zq.moved hvm h.1, vx_Zq.moved hvm h.2⟩
theorem ce_Z_kept {A : Nat → Prop} {U : State} {H H1 : Heap} (h : ce_Z A U H) (hq : ∀ a : Nat, a < H.size → ¬ A a → H1[a]? = H[a]?) : ce_Z A U H1 := ⟨vx_Zq.kept h.1 hq, vx_Zq.kept h.2 hq⟩
theorem ce_Z_narrow {A B : Nat → Prop} {U : State} {H : Heap} (h : ce_Z A U H) (hAB : ∀ q, B q → A q) : ce_Z B U H := ⟨vx_Zq.narrow h.1 hAB, vx_Zq.narrow h.2 hAB⟩
theorem ce_E_blind {G : ce_G} {A : Nat → Prop} {av : List Value} {σ : ce_S} {g : ce_D} : FrameBlind (va_Pc av (ce_E G A σ g)) := by
  intro a U f mk h
  obtain ⟨h1, h2, h3, h4, h5, h6, h7⟩ := h
  exact ⟨h1, h2, h3, h4, h5, ce_K_same (s := U) (U := U.calling f mk a) rfl h6, ce_Z_moved (u := U) (U := U.calling f mk a) (Vm.Alike.refl U.vm) h7⟩
theorem ce_lt {G : ce_G} {σ : ce_S} {g : ce_D} {H : Heap} (h : ce_R G σ g H) {a : Nat} (hk : ce_kd σ a ≠ 0) : a < H.size := by
  obtain ⟨h15, h1, h2, h3, h4, h5, h6⟩ := h a hk
  by_cases h9 : ce_kd σ a ≤ 9
  · obtain ⟨ci, hci⟩ : ∃ ci, ce_kd σ a = ci + 1 := ⟨ce_kd σ a - 1, by omega⟩
    have hr : ∃ r, vwCl[ci]? = some r := by
      have : ci < vwCl.length := by show ci < 9; omega
      exact ⟨_, List.getElem?_eq_getElem this⟩
    obtain ⟨r, hr⟩ := hr
    obtain ⟨cell, hc, -⟩ := h1 ci r hci hr
    exact (Array.getElem?_eq_some_iff.mp hc).1
  · rcases (show ce_kd σ a = 10 ∨ ce_kd σ a = 11 ∨ ce_kd σ a = 12 ∨ ce_kd σ a = 13 ∨ ce_kd σ a = 14 by omega) with e | e | e | e | e
    · exact (Array.getElem?_eq_some_iff.mp (h2 e)).1
    · exact (Array.getElem?_eq_some_iff.mp (h3 e)).1
    · exact (Array.getElem?_eq_some_iff.mp (h4 e)).1
    · exact (Array.getElem?_eq_some_iff.mp (h5 e)).1
    · exact (Array.getElem?_eq_some_iff.mp (h6 e)).1
theorem ce_cell_kept {G : ce_G} {σ σ' : ce_S} {g g' : ce_D} {H H1 : Heap} {a : Nat} (h : ce_cell G σ g H a) (hq : H1[a]? = H[a]?) (e1 : ce_kd σ' a = ce_kd σ a) (e2 : ce_ln σ' a = ce_ln σ a) (e3 : ce_gr σ' a = ce_gr σ a) (e4 : ce_gl σ' a = ce_gl σ a) (e5 : g' a = g a) : ce_cell G σ' g' H1 a := by
  obtain ⟨h1, h2, h3, h4, h5, h6⟩ := h
  unfold ce_cell
  rw [e1, e2, e3, e4, e5, hq]
  refine ⟨fun ci r hk hr => ?_, h2, h3, h4, h5, h6⟩
  have := (h1 ci r hk hr).kept hq
  refine this.to (fun k _ => ?_)
  simp only [ce_fv, e3, e5]
end CEA
