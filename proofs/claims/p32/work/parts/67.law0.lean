abbrev mL_law : ce_Y := (yL_law, cL_law, 7, some .boolean, [])
/-- what holds in the law's frame, and in its draw's -/
def ce_CL (Y : ce_Y) (G : ce_G) (A : Nat → Prop) (p : Program) (s : State) (m : MethodId) (args : Array Value) (meth : Method) (c : Code) : Prop :=
  p.tables.exec = Jvm.exec ∧ c.code = Y.2.1 ∧ c.maxLocals = Y.2.2.1 ∧ meth.sig.returnType = Y.2.2.2.1 ∧ meth.locks = false ∧ s.vm.findClass Y.1.cls = some m.cls ∧ (∀ w ∈ ce_ws mL_draw, w.before args s = true) ∧
  ce_K G s ∧ ce_Z A s s.heap
def ce_WL (Y : ce_Y) (G : ce_G) (A : Nat → Prop) (p : Program) (e : Env) (s : State) (m : MethodId) (args : Array Value) (below : List Frame) (meth : Method) (c : Code) (Z : State → Prop) (ρ : Room) (kc ks pc : Nat) (L : List (Option Value)) (st : List Value) (σ : ce_S) (g : ce_D) : Prop :=
  ∀ (H : Heap) (locs : List Loc) (ls : Array Slot), ce_I G A s σ g H locs → ce_L ls Y.2.2.1 L → W p G.1 e ρ s m args below meth c H locs kc ks Z (F0 m pc ls st)
section SLA
variable {Y : ce_Y} {G : ce_G} {A : Nat → Prop} {p : Program} {e : Env} {s : State} {m : MethodId} {args : Array Value} {below : List Frame} {meth : Method} {c : Code} {Z : State → Prop} {ρ : Room} {kc ks pc : Nat} {L : List (Option Value)} {st : List Value} {σ : ce_S} {g : ce_D}
theorem sl_E_at (hK : ce_K G s) (hZ : ce_Z A s s.heap) {H : Heap} {locs : List Loc} (I : ce_I G A s σ g H locs) {U : State} (hU : U.heap = H) (hW : s.WarmedH U.vm) : ce_E G (ce_A σ) σ g U := by
  refine ⟨by rw [hU]; exact I.1, by rw [hU]; exact I.2.1, fun q hq => Or.inr hq, fun q hq => Or.inl hq, ce_K_warm hW hK, ?_⟩
  rw [hU]
  exact ce_Z_narrow (ce_Z_moved hW.alike (ce_Z_kept hZ I.2.2.1.2.1)) (ce_A_up I)
theorem sl_join {H : Heap} {locs : List Loc} {ls : Array Slot} {mc ms : Nat} {st0 rest : List Value} {a : Array Value} {Q' : Option Value → ce_S → ce_D → Prop}
    (hr : va_Run p G.1 e ρ s m args below meth c H locs kc ks mc ms (F0 m pc ls st0) rest (ce_Q G Q' (ce_A σ) a) (ce_A σ))
    (I : ce_I G A s σ g H locs) (hl : ce_L ls mL_law.2.2.1 L)
    (kk : ∀ v σ' g', Q' v σ' g' → ce_WL mL_law G A p e s m args below meth c Z ρ (kc + mc) (ks + ms) (pc + 3) L (v.toList ++ rest) σ' g') : W p G.1 e ρ s m args below meth c H locs kc ks Z (F0 m pc ls st0) := by
  intro T hT X0
  have hup := ce_A_up I
  obtain ⟨v, st₀, t, T', Lc, h0, X', hL, e1, e2, ⟨v2, σ', g', hv, hQ, hR, hsz, hkd, hF⟩, st⟩ := hr T hT X0
  cases hv
  obtain ⟨k1, k2, k3⟩ := vx_keep h0 e1 I.2.2.1 (fun q _ h => hup q h) hup hL hF
  obtain ⟨t2, a1, b1⟩ := kk v σ' g' hQ T'.heap (locs ++ Lc) ls ⟨by rw [e1]; exact hR, by rw [e1]; exact hsz, k3, I.2.2.2.1, fun q hq => hup q (hkd q hq)⟩ hl T' rfl X'
  exact ⟨t2, st t2 a1, b1⟩
theorem sl_sld (Cx : ce_CL Y G A p s m args meth c) {b0 L0 : Nat} {xs : Nat → Int32} (hX : va_X b0 L0 xs s s.heap) (hbl : b0 < s.heap.size) (hbA : ¬ A b0) (hL : L0 ≤ 100000) {i : Int32} {n : Nat} (d : decode Y.2.1 pc = .ok (.iaload, 1)) (hi : i = nI n) (hn : n < L0) (k : ce_WL Y G A p e s m args below meth c Z ρ kc ks (pc + 1) L (.int (xs n) :: st) σ g) : ce_WL Y G A p e s m args below meth c Z ρ kc ks pc L (.int i :: .ref b0 :: st) σ g := fun H locs ls I hl => by
  obtain ⟨h1, h2⟩ := ce_ix hi hn hL
  refine va_sld Cx.1 Cx.2.1 hX hbl hbA I.2.2.1 h1 d ?_
  rw [h2]
  exact k H locs ls I hl
theorem sl_slen (Cx : ce_CL Y G A p s m args meth c) {b0 L0 : Nat} {xs : Nat → Int32} (hX : va_X b0 L0 xs s s.heap) (hbl : b0 < s.heap.size) (hbA : ¬ A b0) (d : decode Y.2.1 pc = .ok (.arraylength, 1)) (k : ce_WL Y G A p e s m args below meth c Z ρ kc ks (pc + 1) L (.int (nI L0) :: st) σ g) : ce_WL Y G A p e s m args below meth c Z ρ kc ks pc L (.ref b0 :: st) σ g := fun H locs ls I hl => va_slen Cx.1 Cx.2.1 hX hbl hbA I.2.2.1 d (k H locs ls I hl)
theorem sl_drop {L' : List (Option Value)} (hl : ce_le L' L) (k : ce_WL Y G A p e s m args below meth c Z ρ kc ks pc L' st σ g) : ce_WL Y G A p e s m args below meth c Z ρ kc ks pc L st σ g := fun H locs ls I hL => k H locs ls I ⟨hL.1, hL.2.1, (ce_le_to hl).1.trans hL.2.2.1, fun i v e => hL.2.2.2 i v ((ce_le_to hl).2 i v e)⟩
theorem sl_widen {kc' ks' : Nat} (h1 : kc ≤ kc') (h2 : ks ≤ ks') (k : ce_WL Y G A p e s m args below meth c Z ρ kc' ks' pc L st σ g) : ce_WL Y G A p e s m args below meth c Z ρ kc ks pc L st σ g := fun H locs ls I hl => W.widen h1 h2 (k H locs ls I hl)
theorem sl_iload (Cx : ce_CL Y G A p s m args meth c) {i : Nat} {x : Int32} (d : decode Y.2.1 pc = .ok (.iload i, 2)) (hv : L[i]? = some (some (.int x))) (k : ce_WL Y G A p e s m args below meth c Z ρ kc ks (pc + 2) L (.int x :: st) σ g) : ce_WL Y G A p e s m args below meth c Z ρ kc ks pc L st σ g := fun H locs ls I hl => lv_iload Cx.1 Cx.2.1 d (hl.2.2.2 _ _ hv) (k H locs ls I hl)
theorem sl_iload_n (Cx : ce_CL Y G A p s m args meth c) {i : Fin 4} {x : Int32} (d : decode Y.2.1 pc = .ok (.iload_n i, 1)) (hv : L[(i : Nat)]? = some (some (.int x))) (k : ce_WL Y G A p e s m args below meth c Z ρ kc ks (pc + 1) L (.int x :: st) σ g) : ce_WL Y G A p e s m args below meth c Z ρ kc ks pc L st σ g := fun H locs ls I hl => lv_iload_n Cx.1 Cx.2.1 d rfl (hl.2.2.2 _ _ hv) (k H locs ls I hl)
theorem sl_aload_n (Cx : ce_CL Y G A p s m args meth c) {i : Fin 4} {x : Nat} (d : decode Y.2.1 pc = .ok (.aload_n i, 1)) (hv : L[(i : Nat)]? = some (some (.ref x))) (k : ce_WL Y G A p e s m args below meth c Z ρ kc ks (pc + 1) L (.ref x :: st) σ g) : ce_WL Y G A p e s m args below meth c Z ρ kc ks pc L st σ g := fun H locs ls I hl => lv_aload_n Cx.1 Cx.2.1 d rfl (hl.2.2.2 _ _ hv) (k H locs ls I hl)
theorem sl_iconst (Cx : ce_CL Y G A p s m args meth c) {n : Int} {v : Int32} (d : decode Y.2.1 pc = .ok (.iconst n, 1)) (hv : Int32.ofInt n = v) (k : ce_WL Y G A p e s m args below meth c Z ρ kc ks (pc + 1) L (.int v :: st) σ g) : ce_WL Y G A p e s m args below meth c Z ρ kc ks pc L st σ g := fun H locs ls I hl => lv_iconst Cx.1 Cx.2.1 d hv (k H locs ls I hl)
theorem sl_lconst (Cx : ce_CL Y G A p s m args meth c) {n : Fin 2} {v : Int64} (d : decode Y.2.1 pc = .ok (.lconst n, 1)) (hv : Int64.ofNat (n : Nat) = v) (k : ce_WL Y G A p e s m args below meth c Z ρ kc ks (pc + 1) L (.long v :: st) σ g) : ce_WL Y G A p e s m args below meth c Z ρ kc ks pc L st σ g := fun H locs ls I hl => lv_lconst Cx.1 Cx.2.1 d hv (k H locs ls I hl)
theorem sl_bipush (Cx : ce_CL Y G A p s m args meth c) {n : Int} {v : Int32} (d : decode Y.2.1 pc = .ok (.bipush n, 2)) (hv : (Int8.ofInt n).toInt32 = v) (k : ce_WL Y G A p e s m args below meth c Z ρ kc ks (pc + 2) L (.int v :: st) σ g) : ce_WL Y G A p e s m args below meth c Z ρ kc ks pc L st σ g := fun H locs ls I hl => lv_bipush Cx.1 Cx.2.1 d hv (k H locs ls I hl)
theorem sl_sipush (Cx : ce_CL Y G A p s m args meth c) {n : Int} {v : Int32} (d : decode Y.2.1 pc = .ok (.sipush n, 3)) (hv : (Int16.ofInt n).toInt32 = v) (k : ce_WL Y G A p e s m args below meth c Z ρ kc ks (pc + 3) L (.int v :: st) σ g) : ce_WL Y G A p e s m args below meth c Z ρ kc ks pc L st σ g := fun H locs ls I hl => lv_sipush Cx.1 Cx.2.1 d hv (k H locs ls I hl)
theorem sl_ldc (Cx : ce_CL Y G A p s m args meth c) {i : Nat} {v : Int32} (d : decode Y.2.1 pc = .ok (.ldc i, 2)) (hm : Cond.constant Y.1.cls i v ∈ lw_tbl) (k : ce_WL Y G A p e s m args below meth c Z ρ kc ks (pc + 2) L (.int v :: st) σ g) : ce_WL Y G A p e s m args below meth c Z ρ kc ks pc L st σ g := fun H locs ls I hl => lv_ldc Cx.1 Cx.2.1 Cx.2.2.2.2.2.1 (Cx.2.2.2.2.2.2.1 _ (ce_gw_in hm rfl mL_draw)) d (k H locs ls I hl)
theorem sl_imul (Cx : ce_CL Y G A p s m args meth c) {x y z : Int32} (d : decode Y.2.1 pc = .ok (.imul, 1)) (hz : x * y = z) (k : ce_WL Y G A p e s m args below meth c Z ρ kc ks (pc + 1) L (.int z :: st) σ g) : ce_WL Y G A p e s m args below meth c Z ρ kc ks pc L (.int y :: .int x :: st) σ g := fun H locs ls I hl => by subst hz; exact lv_imul Cx.1 Cx.2.1 d (k H locs ls I hl)
theorem sl_iadd (Cx : ce_CL Y G A p s m args meth c) {x y z : Int32} (d : decode Y.2.1 pc = .ok (.iadd, 1)) (hz : x + y = z) (k : ce_WL Y G A p e s m args below meth c Z ρ kc ks (pc + 1) L (.int z :: st) σ g) : ce_WL Y G A p e s m args below meth c Z ρ kc ks pc L (.int y :: .int x :: st) σ g := fun H locs ls I hl => by subst hz; exact lv_iadd Cx.1 Cx.2.1 d (k H locs ls I hl)
theorem sl_iand (Cx : ce_CL Y G A p s m args meth c) {x y z : Int32} (d : decode Y.2.1 pc = .ok (.iand, 1)) (hz : x &&& y = z) (k : ce_WL Y G A p e s m args below meth c Z ρ kc ks (pc + 1) L (.int z :: st) σ g) : ce_WL Y G A p e s m args below meth c Z ρ kc ks pc L (.int y :: .int x :: st) σ g := fun H locs ls I hl => by subst hz; exact lv_iand Cx.1 Cx.2.1 d (k H locs ls I hl)
theorem sl_irem (Cx : ce_CL Y G A p s m args meth c) {x y : Int32} {z : Int32} (d : decode Y.2.1 pc = .ok (.irem, 1)) (hne : ¬ y = 0) (hz : (x - x / y * y) = z) (k : ce_WL Y G A p e s m args below meth c Z ρ kc ks (pc + 1) L (.int z :: st) σ g) : ce_WL Y G A p e s m args below meth c Z ρ kc ks pc L (.int y :: .int x :: st) σ g := fun H locs ls I hl => by subst hz; exact lv_irem Cx.1 Cx.2.1 d hne (k H locs ls I hl)
theorem sl_lcmp (Cx : ce_CL Y G A p s m args meth c) {x y : Int64} {z : Int32} (d : decode Y.2.1 pc = .ok (.lcmp, 1)) (hz : lg_cmp x y = z) (k : ce_WL Y G A p e s m args below meth c Z ρ kc ks (pc + 1) L (.int z :: st) σ g) : ce_WL Y G A p e s m args below meth c Z ρ kc ks pc L (.long y :: .long x :: st) σ g := fun H locs ls I hl => by subst hz; exact W.lcmp Cx.1 Cx.2.1 d (k H locs ls I hl)
theorem sl_goto (Cx : ce_CL Y G A p s m args meth c) {off : Int} {tgt : Nat} (d : decode Y.2.1 pc = .ok (.goto off, 3)) (ht : (pc : Int) + off = (tgt : Int)) (k : ce_WL Y G A p e s m args below meth c Z ρ kc ks tgt L st σ g) : ce_WL Y G A p e s m args below meth c Z ρ kc ks pc L st σ g := fun H locs ls I hl => lv_goto Cx.1 Cx.2.1 d ht (k H locs ls I hl)
theorem sl_istore (Cx : ce_CL Y G A p s m args meth c) {i : Nat} {x : Int32} (d : decode Y.2.1 pc = .ok (.istore i, 2)) (hi : i < L.length) (hn : ce_nl L i = true) (k : ce_WL Y G A p e s m args below meth c Z ρ kc ks (pc + 2) (L.set i (some (.int x))) st σ g) : ce_WL Y G A p e s m args below meth c Z ρ kc ks pc L (.int x :: st) σ g := fun H locs ls I hl => lv_istore Cx.1 Cx.2.1 d (ce_L_has hl) (by rw [← hl.2.2.1]; exact hi) rfl (fun ls9 h9 => k H locs ls9 I (ce_L_st1 hl hi hn h9))
theorem sl_istore_n (Cx : ce_CL Y G A p s m args meth c) {i : Fin 4} {x : Int32} (d : decode Y.2.1 pc = .ok (.istore_n i, 1)) (hi : (i : Nat) < L.length) (hn : ce_nl L (i : Nat) = true) (k : ce_WL Y G A p e s m args below meth c Z ρ kc ks (pc + 1) (L.set (i : Nat) (some (.int x))) st σ g) : ce_WL Y G A p e s m args below meth c Z ρ kc ks pc L (.int x :: st) σ g := fun H locs ls I hl => lv_istore_n Cx.1 Cx.2.1 d rfl (ce_L_has hl) (by rw [← hl.2.2.1]; exact hi) rfl (fun ls9 h9 => k H locs ls9 I (ce_L_st1 hl hi hn h9))
theorem sl_astore_n (Cx : ce_CL Y G A p s m args meth c) {i : Fin 4} {x : Nat} (d : decode Y.2.1 pc = .ok (.astore_n i, 1)) (hi : (i : Nat) < L.length) (hn : ce_nl L (i : Nat) = true) (k : ce_WL Y G A p e s m args below meth c Z ρ kc ks (pc + 1) (L.set (i : Nat) (some (.ref x))) st σ g) : ce_WL Y G A p e s m args below meth c Z ρ kc ks pc L (.ref x :: st) σ g := fun H locs ls I hl => lv_astore_n Cx.1 Cx.2.1 d rfl (ce_L_has hl) (by rw [← hl.2.2.1]; exact hi) rfl (fun ls9 h9 => k H locs ls9 I (ce_L_st1 hl hi hn h9))
theorem sl_dup (Cx : ce_CL Y G A p s m args meth c) {v : Value} (d : decode Y.2.1 pc = .ok (.dup, 1)) (hv : v.category = 1) (k : ce_WL Y G A p e s m args below meth c Z ρ kc ks (pc + 1) L (v :: v :: st) σ g) : ce_WL Y G A p e s m args below meth c Z ρ kc ks pc L (v :: st) σ g := fun H locs ls I hl => lv_dup Cx.1 Cx.2.1 d hv (k H locs ls I hl)
theorem sl_icmp_ge (Cx : ce_CL Y G A p s m args meth c) {x y : Int32} {off : Int} {tgt : Nat} (d : decode Y.2.1 pc = .ok (.if_icmp .ge off, 3)) (ht : (pc : Int) + off = (tgt : Int)) (kt : y ≤ x → ce_WL Y G A p e s m args below meth c Z ρ kc ks tgt L st σ g) (kf : ¬ y ≤ x → ce_WL Y G A p e s m args below meth c Z ρ kc ks (pc + 3) L st σ g) : ce_WL Y G A p e s m args below meth c Z ρ kc ks pc L (.int y :: .int x :: st) σ g := fun H locs ls I hl => lv_icmp_ge Cx.1 Cx.2.1 d ht (fun q => kt q H locs ls I hl) (fun q => kf q H locs ls I hl)
theorem sl_icmp_ne (Cx : ce_CL Y G A p s m args meth c) {x y : Int32} {off : Int} {tgt : Nat} (d : decode Y.2.1 pc = .ok (.if_icmp .ne off, 3)) (ht : (pc : Int) + off = (tgt : Int)) (kt : ¬ x = y → ce_WL Y G A p e s m args below meth c Z ρ kc ks tgt L st σ g) (kf : x = y → ce_WL Y G A p e s m args below meth c Z ρ kc ks (pc + 3) L st σ g) : ce_WL Y G A p e s m args below meth c Z ρ kc ks pc L (.int y :: .int x :: st) σ g := fun H locs ls I hl => lv_icmp_ne Cx.1 Cx.2.1 d ht (fun q => kt q H locs ls I hl) (fun q => kf q H locs ls I hl)
theorem sl_if_ne (Cx : ce_CL Y G A p s m args meth c) {x : Int32} {off : Int} {tgt : Nat} (d : decode Y.2.1 pc = .ok (.ifCond .ne off, 3)) (ht : (pc : Int) + off = (tgt : Int)) (kt : ¬ x = 0 → ce_WL Y G A p e s m args below meth c Z ρ kc ks tgt L st σ g) (kf : x = 0 → ce_WL Y G A p e s m args below meth c Z ρ kc ks (pc + 3) L st σ g) : ce_WL Y G A p e s m args below meth c Z ρ kc ks pc L (.int x :: st) σ g := fun H locs ls I hl => lv_if_ne Cx.1 Cx.2.1 d ht (fun q => kt q H locs ls I hl) (fun q => kf q H locs ls I hl)
theorem sl_if_eq (Cx : ce_CL Y G A p s m args meth c) {x : Int32} {off : Int} {tgt : Nat} (d : decode Y.2.1 pc = .ok (.ifCond .eq off, 3)) (ht : (pc : Int) + off = (tgt : Int)) (kt : x = 0 → ce_WL Y G A p e s m args below meth c Z ρ kc ks tgt L st σ g) (kf : ¬ x = 0 → ce_WL Y G A p e s m args below meth c Z ρ kc ks (pc + 3) L st σ g) : ce_WL Y G A p e s m args below meth c Z ρ kc ks pc L (.int x :: st) σ g := fun H locs ls I hl => lv_if_eq Cx.1 Cx.2.1 d ht (fun q => kt q H locs ls I hl) (fun q => kf q H locs ls I hl)
theorem sl_if_gt (Cx : ce_CL Y G A p s m args meth c) {x : Int32} {off : Int} {tgt : Nat} (d : decode Y.2.1 pc = .ok (.ifCond .gt off, 3)) (ht : (pc : Int) + off = (tgt : Int)) (kt : 0 < x → ce_WL Y G A p e s m args below meth c Z ρ kc ks tgt L st σ g) (kf : ¬ 0 < x → ce_WL Y G A p e s m args below meth c Z ρ kc ks (pc + 3) L st σ g) : ce_WL Y G A p e s m args below meth c Z ρ kc ks pc L (.int x :: st) σ g := fun H locs ls I hl => lv_if_gt Cx.1 Cx.2.1 d ht (fun q => kt q H locs ls I hl) (fun q => kf q H locs ls I hl)
theorem sl_if_lt (Cx : ce_CL Y G A p s m args meth c) {x : Int32} {off : Int} {tgt : Nat} (d : decode Y.2.1 pc = .ok (.ifCond .lt off, 3)) (ht : (pc : Int) + off = (tgt : Int)) (kt : x < 0 → ce_WL Y G A p e s m args below meth c Z ρ kc ks tgt L st σ g) (kf : ¬ x < 0 → ce_WL Y G A p e s m args below meth c Z ρ kc ks (pc + 3) L st σ g) : ce_WL Y G A p e s m args below meth c Z ρ kc ks pc L (.int x :: st) σ g := fun H locs ls I hl => lv_if_lt Cx.1 Cx.2.1 d ht (fun q => kt q H locs ls I hl) (fun q => kf q H locs ls I hl)
theorem sl_iinc (Cx : ce_CL Y G A p s m args meth c) {i : Nat} {n : Int} {x v : Int32} (d : decode Y.2.1 pc = .ok (.iinc i n, 3)) (hx : L[i]? = some (some (.int x))) (hv : x + Int32.ofInt n = v) (hi : i < L.length) (hn : ce_nl L i = true) (k : ce_WL Y G A p e s m args below meth c Z ρ kc ks (pc + 3) (L.set i (some (.int v))) st σ g) : ce_WL Y G A p e s m args below meth c Z ρ kc ks pc L st σ g := fun H locs ls I hl => by
  obtain ⟨q, hq⟩ := List.getElem?_of_mem (ce_en_mem.mpr hx)
  exact lv_iinc Cx.1 Cx.2.1 d (ce_L_has hl) hq hv (by rw [← hl.2.2.1]; exact hi) rfl (fun ls9 h9 => k H locs ls9 I (ce_L_st1 hl hi hn h9))
theorem sl_icmp_geN (Cx : ce_CL Y G A p s m args meth c) {x y : Int32} {a b : Nat} {off : Int} {tgt : Nat} (d : decode Y.2.1 pc = .ok (.if_icmp .ge off, 3)) (ht : (pc : Int) + off = (tgt : Int)) (hx : x = nI a) (hy : y = nI b) (ha : a < 2147483648) (hb : b < 2147483648) (kt : b ≤ a → ce_WL Y G A p e s m args below meth c Z ρ kc ks tgt L st σ g) (kf : a < b → ce_WL Y G A p e s m args below meth c Z ρ kc ks (pc + 3) L st σ g) : ce_WL Y G A p e s m args below meth c Z ρ kc ks pc L (.int y :: .int x :: st) σ g := by
  subst hx; subst hy
  exact sl_icmp_ge Cx d ht (fun q => kt ((nI_leI hb ha).mp q)) (fun q => kf (Nat.lt_of_not_le fun e => q ((nI_leI hb ha).mpr e)))
theorem sl_icmp_neN (Cx : ce_CL Y G A p s m args meth c) {x y : Int32} {a b : Nat} {off : Int} {tgt : Nat} (d : decode Y.2.1 pc = .ok (.if_icmp .ne off, 3)) (ht : (pc : Int) + off = (tgt : Int)) (hx : x = nI a) (hy : y = nI b) (ha : a < 2147483648) (hb : b < 2147483648) (kt : a ≠ b → ce_WL Y G A p e s m args below meth c Z ρ kc ks tgt L st σ g) (kf : a = b → ce_WL Y G A p e s m args below meth c Z ρ kc ks (pc + 3) L st σ g) : ce_WL Y G A p e s m args below meth c Z ρ kc ks pc L (.int y :: .int x :: st) σ g := by
  subst hx; subst hy
  exact sl_icmp_ne Cx d ht (fun q => kt (fun e => q ((nI_eq ha hb).mpr e))) (fun q => kf ((nI_eq ha hb).mp q))
theorem sl_if_neN (Cx : ce_CL Y G A p s m args meth c) {x : Int32} {a : Nat} {off : Int} {tgt : Nat} (d : decode Y.2.1 pc = .ok (.ifCond .ne off, 3)) (ht : (pc : Int) + off = (tgt : Int)) (hx : x = nI a) (ha : a < 2147483648) (kt : a ≠ 0 → ce_WL Y G A p e s m args below meth c Z ρ kc ks tgt L st σ g) (kf : a = 0 → ce_WL Y G A p e s m args below meth c Z ρ kc ks (pc + 3) L st σ g) : ce_WL Y G A p e s m args below meth c Z ρ kc ks pc L (.int x :: st) σ g := by
  subst hx
  have hb : (0 : Nat) < 2147483648 := by decide
  exact sl_if_ne Cx d ht (fun q => kt (fun e => q ((nI_eq ha hb).mpr e))) (fun q => kf ((nI_eq ha hb).mp q))
theorem sl_if_gtN (Cx : ce_CL Y G A p s m args meth c) {x : Int32} {a : Nat} {off : Int} {tgt : Nat} (d : decode Y.2.1 pc = .ok (.ifCond .gt off, 3)) (ht : (pc : Int) + off = (tgt : Int)) (hx : x = nI a) (ha : a < 2147483648) (kt : 0 < a → ce_WL Y G A p e s m args below meth c Z ρ kc ks tgt L st σ g) (kf : a ≤ 0 → ce_WL Y G A p e s m args below meth c Z ρ kc ks (pc + 3) L st σ g) : ce_WL Y G A p e s m args below meth c Z ρ kc ks pc L (.int x :: st) σ g := by
  subst hx
  have hb : (0 : Nat) < 2147483648 := by decide
  exact sl_if_gt Cx d ht (fun q => kt ((nI_ltI hb ha).mp q)) (fun q => kf (Nat.le_of_not_lt fun e => q ((nI_ltI hb ha).mpr e)))
theorem sl_new (Cx : ce_CL Y G A p s m args meth c) {ci N idx : Nat} {CN : String} {T : u_T} (d : decode Y.2.1 pc = .ok (.new idx, 3)) (hcl : Cond.classLink Y.1.cls idx CN ∈ lw_tbl) (hins : Cond.instantiable CN N ∈ lw_tbl) (hini : Cond.initialized CN ∈ lw_tbl) (hc : vwCl[ci]? = some (CN, T, N)) (hcc : kc + 1 ≤ ρ.cells) (hss : ks + N ≤ ρ.slots)
    (kk : ce_WL Y G A p e s m args below meth c Z ρ (kc + 1) (ks + N) (pc + 3) L (.ref σ.1 :: st) (ce_nw σ (ci + 1) 0) (ce_nd σ g)) : ce_WL Y G A p e s m args below meth c Z ρ kc ks pc L st σ g := by
  intro H locs ls I hl
  have C0 := Cx
  have kk := fun H1 I1 => kk H1 locs ls I1 hl
  obtain ⟨hx, hb, hml, hr, hlk, hown, hts, hK, hZ⟩ := C0
  have hin := ce_uin (ce_cls ci _ hc).2.2 mL_draw
  have hKn := hK.1.1 ci _ hc
  have hci : ci < 9 := (List.getElem?_eq_some_iff.mp hc).1
  obtain ⟨ty, hty, hdf⟩ := ce_dflt ci _ hc
  refine W.newcK hx hb hown (hts _ (ce_gw_in hcl rfl mL_draw)) (hts _ (ce_gw_in hins rfl mL_draw)) (hts _ (ce_gw_in hini rfl mL_draw)) rfl d hcc hss hKn.2.1 I.2.1 fun H1 kC hkC e1 z1 o1 => ?_
  have hsz : H.size = σ.1 := I.2.1
  refine kk H1 (ce_I_new I (by rw [z1, hsz]) (fun q hq => o1 q (by rw [hsz] at hq; exact hq)) (by omega) (ce_cell_fld (ce_nw_kd σ (ci + 1) 0) hc ?_))
  refine (u_born ty hts hin hKn hkC e1 hty).to (fun k hk => ?_)
  rw [hdf k hk]
  unfold ce_fv
  rw [ce_nw_gr, ce_nd_at]
  rfl
theorem sl_callI (Cx : ce_CL mL_law G A p s m args meth c) {Y' : ce_Y} {ρ' : Room} {n idx b : Nat} {stk As rest : List Value} {Q' : Option Value → ce_S → ce_D → Prop} (d : decode mL_law.2.1 pc = .ok (.invokespecial idx, 3)) (hY : ce_MI Y' n) (hl : Cond.methodLink mL_law.1.cls idx Y'.1 ∈ lw_tbl) (hC : ce_CT ρ' Y' (.ref b :: As) σ g Q' ce_no) (hst : stk = As.reverse ++ .ref b :: rest) (hn : As.length = n)
    (hR : ce_rm ρ ρ' Y'.2.2.1) (hrest : (rest.map fun v => v.category).sum ≤ 8) (hcc : kc + ρ'.cells ≤ ρ.cells) (hss : ks + ρ'.slots ≤ ρ.slots)
    (kk : ∀ v σ' g', Q' v σ' g' → ce_WL mL_law G A p e s m args below meth c Z ρ (kc + ρ'.cells) (ks + ρ'.slots) (pc + 3) L (v.toList ++ rest) σ' g') : ce_WL mL_law G A p e s m args below meth c Z ρ kc ks pc L stk σ g := by
  intro H locs ls I hl'
  have C := Cx
  obtain ⟨hp, hh, hcw, hi, hin, hnm1, hret⟩ := hY
  obtain ⟨hx, hb', hml, hr, hlk, hown, hts, hK, hZ⟩ := id C
  have hcb := ce_callB (Y := mL_draw) hts hp hh hcw hi hl hR
  rw [hret] at hcb
  exact sl_join (va_runI (As := As) (rest := rest) (n := n) ⟨hx, hb', hml, hown, hts⟩ (ce_met hC G (ce_A σ)) ⟨hcb, hnm1, hts _ (ce_gw_in hin rfl mL_draw)⟩ ⟨ce_E_blind, fun U hU hW => ⟨rfl, sl_E_at hK hZ I hU hW⟩⟩ rfl hn hl'.1 hst (lv_room hrest) d ⟨hcc, hss⟩) I hl' kk
theorem sl_callS (Cx : ce_CL mL_law G A p s m args meth c) {Y' : ce_Y} {ρ' : Room} {n idx : Nat} {stk As rest : List Value} {Q' : Option Value → ce_S → ce_D → Prop} (d : decode mL_law.2.1 pc = .ok (.invokestatic idx, 3)) (hY : ce_MS Y' n) (hl : Cond.methodLink mL_law.1.cls idx Y'.1 ∈ lw_tbl) (hC : ce_CT ρ' Y' As σ g Q' ce_no) (hst : stk = As.reverse ++ rest) (hn : As.length = n)
    (hR : ce_rm ρ ρ' Y'.2.2.1) (hrest : (rest.map fun v => v.category).sum ≤ 8) (hcc : kc + ρ'.cells ≤ ρ.cells) (hss : ks + ρ'.slots ≤ ρ.slots)
    (kk : ∀ v σ' g', Q' v σ' g' → ce_WL mL_law G A p e s m args below meth c Z ρ (kc + ρ'.cells) (ks + ρ'.slots) (pc + 3) L (v.toList ++ rest) σ' g') : ce_WL mL_law G A p e s m args below meth c Z ρ kc ks pc L stk σ g := by
  intro H locs ls I hl'
  have C := Cx
  obtain ⟨hp, hh, hcw, hi, hsta⟩ := hY
  obtain ⟨hx, hb', hml, hr, hlk, hown, hts, hK, hZ⟩ := id C
  exact sl_join (va_runS (As := As) (rest := rest) (n := n) ⟨hx, hb', hml, hown, hts⟩ (ce_met hC G (ce_A σ)) ⟨ce_callB (Y := mL_draw) hts hp hh hcw hi hl hR, hts _ (ce_gw_in hsta rfl mL_draw)⟩ ⟨ce_E_blind, fun U hU hW => ⟨rfl, sl_E_at hK hZ I hU hW⟩⟩ rfl hn hl'.1 hst (lv_room hrest) d ⟨hcc, hss⟩) I hl' kk
theorem sl_callSW (Cx : ce_CL mL_law G A p s m args meth c) {Y' : ce_Y} {ρ' : Room} {n idx : Nat} {stk As rest : List Value} {Q' : Option Value → ce_S → ce_D → Prop} (d : decode mL_law.2.1 pc = .ok (.invokestatic idx, 3)) (hY : ce_MH Y' n) (hl : Cond.methodLink mL_law.1.cls idx Y'.1 ∈ lw_tbl) (hC : ce_CT ρ' Y' As σ g Q' ce_no) (hst : stk = As.reverse ++ rest) (hn : As.length = n)
    (hR : ce_rm ρ ρ' Y'.2.2.1) (hrest : (rest.map fun v => v.category).sum ≤ 8) (hcc : kc + ρ'.cells ≤ ρ.cells) (hss : ks + ρ'.slots ≤ ρ.slots)
    (kk : ∀ v σ' g', Q' v σ' g' → ce_WL mL_law G A p e s m args below meth c Z ρ (kc + ρ'.cells) (ks + ρ'.slots) (pc + 3) L (v.toList ++ rest) σ' g') : ce_WL mL_law G A p e s m args below meth c Z ρ kc ks pc L stk σ g := by
  intro H locs ls I hl'
  have C := Cx
  obtain ⟨hp, ⟨z, zs, hh⟩, hcw, hi, hsta⟩ := hY
  obtain ⟨hx, hb', hml, hr, hlk, hown, hts, hK, hZ⟩ := id C
  have hcw1 : ce_cw Y' = Cond.codeWith Y'.1 Y'.2.1 Y'.2.2.1 Y'.2.2.2.1 (z :: zs) := by unfold ce_cw; rw [hh]
  have hws1 : ce_ws Y' = Cond.codeWith Y'.1 Y'.2.1 Y'.2.2.1 Y'.2.2.2.1 (z :: zs) :: ce_gw := by unfold ce_ws; rw [hcw1]
  rw [hcw1] at hcw
  have hG : GoodIn (ce_ws mL_draw) (va_wsS mL_law.1.cls idx Y'.1 (ce_ws Y')) := by
    intro w hw
    unfold va_wsS at hw
    rcases List.mem_append.mp hw with hw | hw
    · rcases List.mem_cons.mp hw with rfl | hw
      · exact ce_good1 hl rfl
      · rcases List.mem_cons.mp hw with rfl | hw
        · exact ce_good1 hsta rfl
        · rcases List.mem_cons.mp hw with rfl | hw
          · exact ce_good1 hi rfl
          · cases hw
    · rw [hws1] at hw
      rcases List.mem_cons.mp hw with rfl | hw
      · exact ce_good1 hcw rfl
      · obtain ⟨h1, h2⟩ := List.mem_filter.mp hw
        exact ce_good1 h1 h2
  exact sl_join (vx_runSW (hh := z :: zs) (As := As) (rest := rest) (n := n) ⟨hx, hb', hml, hown, hts⟩ (ce_met hC G (ce_A σ)) (vx_cwSW n hts hG hws1 rfl rfl hp hR) ⟨ce_E_blind, fun U hU hW => ⟨rfl, sl_E_at hK hZ I hU hW⟩⟩ rfl hn hl'.1 hst (lv_room hrest) d ⟨hcc, hss⟩) I hl' kk
variable {d9 N9 k n idx : Nat} {stk As rest : List Value}
/-- calls of the law's methods: what is made counts in one number -/
theorem sl_S (Cx : ce_CL mL_law G A p s m args meth c) {Y' : ce_Y} {Q' : Option Value → ce_S → ce_D → Prop} (d : decode mL_law.2.1 pc = .ok (.invokestatic idx, 3)) (hY : ce_MS Y' n) (hl : Cond.methodLink mL_law.1.cls idx Y'.1 ∈ lw_tbl) (hC : ce_CT (ce_rl d9 N9) Y' As σ g Q' ce_no) (hst : stk = As.reverse ++ rest) (hn : As.length = n)
    (hR : ce_rm room_1 (ce_rl d9 N9) Y'.2.2.1) (hrest : (rest.map fun v => v.category).sum ≤ 8) (hcc : k + N9 ≤ 590000)
    (kk : ∀ v σ' g', Q' v σ' g' → ce_WL mL_law G A p e s m args below meth c Z room_1 (1000 + (k + N9)) (12000 + 6 * (k + N9)) (pc + 3) L (v.toList ++ rest) σ' g') : ce_WL mL_law G A p e s m args below meth c Z room_1 (1000 + k) (12000 + 6 * k) pc L stk σ g :=
  sl_callS Cx d hY hl hC hst hn hR hrest (show 1000 + k + N9 ≤ 600104 by omega) (show 12000 + 6 * k + 6 * N9 ≤ 7301314 by omega) (fun v σ' g' h => sl_widen (show 1000 + k + N9 ≤ 1000 + (k + N9) by omega) (show 12000 + 6 * k + 6 * N9 ≤ 12000 + 6 * (k + N9) by omega) (kk v σ' g' h))
theorem sl_SW (Cx : ce_CL mL_law G A p s m args meth c) {Y' : ce_Y} {Q' : Option Value → ce_S → ce_D → Prop} (d : decode mL_law.2.1 pc = .ok (.invokestatic idx, 3)) (hY : ce_MH Y' n) (hl : Cond.methodLink mL_law.1.cls idx Y'.1 ∈ lw_tbl) (hC : ce_CT (ce_rl d9 N9) Y' As σ g Q' ce_no) (hst : stk = As.reverse ++ rest) (hn : As.length = n)
    (hR : ce_rm room_1 (ce_rl d9 N9) Y'.2.2.1) (hrest : (rest.map fun v => v.category).sum ≤ 8) (hcc : k + N9 ≤ 590000)
    (kk : ∀ v σ' g', Q' v σ' g' → ce_WL mL_law G A p e s m args below meth c Z room_1 (1000 + (k + N9)) (12000 + 6 * (k + N9)) (pc + 3) L (v.toList ++ rest) σ' g') : ce_WL mL_law G A p e s m args below meth c Z room_1 (1000 + k) (12000 + 6 * k) pc L stk σ g :=
  sl_callSW Cx d hY hl hC hst hn hR hrest (show 1000 + k + N9 ≤ 600104 by omega) (show 12000 + 6 * k + 6 * N9 ≤ 7301314 by omega) (fun v σ' g' h => sl_widen (show 1000 + k + N9 ≤ 1000 + (k + N9) by omega) (show 12000 + 6 * k + 6 * N9 ≤ 12000 + 6 * (k + N9) by omega) (kk v σ' g' h))
end SLA
