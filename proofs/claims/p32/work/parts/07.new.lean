section CEF
variable {ρ : Room} {Y : ce_Y} {kc ks pc : Nat} {L : List (Option Value)} {st : List Value} {σ : ce_S} {g : ce_D} {Q : Option Value → ce_S → ce_D → Prop} {X : String → ce_S → ce_D → Prop}
/-- a new cell of kind k -/
def ce_nw (σ : ce_S) (k len : Nat) : ce_S := (σ.1 + 1, (fun b => if b = σ.1 then k else ce_kd σ b), (fun b => if b = σ.1 then len else ce_ln σ b), (fun b => if b = σ.1 then (fun _ => none) else ce_gr σ b), (fun b => if b = σ.1 then (fun _ => 0) else ce_gl σ b))
def ce_nd (σ : ce_S) (g : ce_D) : ce_D := fun b => if b = σ.1 then (fun _ => 0) else g b
theorem ce_I_new {G : ce_G} {A : Nat → Prop} {s : State} {H H1 : Heap} {locs : List Loc} {k len : Nat} (I : ce_I G A s σ g H locs) (z : H1.size = H.size + 1) (o1 : ∀ q : Nat, q < H.size → H1[q]? = H[q]?) (h14 : k ≤ 14) (hc : ce_cell G (ce_nw σ k len) (ce_nd σ g) H1 σ.1) : ce_I G A s (ce_nw σ k len) (ce_nd σ g) H1 locs := by
  have hA : A σ.1 := I.2.2.2.1 _ (by have := I.2.2.1.1; have h2 : H.size = σ.1 := I.2.1; omega)
  refine ⟨fun b hb => ?_, by rw [z, I.2.1]; rfl, ⟨Nat.le_trans I.2.2.1.1 (by omega), fun x h1 h2 => (o1 x (Nat.lt_of_lt_of_le h1 I.2.2.1.1)).trans (I.2.2.1.2.1 x h1 h2), I.2.2.1.2.2⟩, I.2.2.2.1, fun q hq => ?_⟩
  · by_cases hbt : b = σ.1
    · subst hbt
      exact ⟨by show (if σ.1 = σ.1 then k else _) ≤ 14; rw [if_pos rfl]; exact h14, hc⟩
    · have e1 : ce_kd (ce_nw σ k len) b = ce_kd σ b := if_neg hbt
      have hb' : ce_kd σ b ≠ 0 := by rw [← e1]; exact hb
      refine ⟨by rw [e1]; exact (I.1 b hb').1, ce_cell_kept (I.1 b hb').2 (o1 b (ce_lt I.1 hb')) e1 (if_neg hbt) (if_neg hbt) (if_neg hbt) (if_neg hbt)⟩
  · by_cases hbt : q = σ.1
    · rw [hbt]; exact hA
    · have e1 : ce_kd (ce_nw σ k len) q = ce_kd σ q := if_neg hbt
      exact I.2.2.2.2 q (by rw [← e1]; exact hq)
theorem ce_dflt0 : ∀ k, k < 14 → defaultValue (tyX0 k) = if ce_rty 0 k then .null else .int 0 := by decide +kernel
theorem ce_dflt1 : ∀ k, k < 2 → defaultValue (tyX1 k) = if ce_rty 1 k then .null else .int 0 := by decide +kernel
theorem ce_dflt2 : ∀ k, k < 2 → defaultValue (tyX2 k) = if ce_rty 2 k then .null else .int 0 := by decide +kernel
theorem ce_dflt3 : ∀ k, k < 4 → defaultValue (tyX3 k) = if ce_rty 3 k then .null else .int 0 := by decide +kernel
theorem ce_dflt4 : ∀ k, k < 1 → defaultValue (tyX4 k) = if ce_rty 4 k then .null else .int 0 := by decide +kernel
theorem ce_dflt5 : ∀ k, k < 1 → defaultValue (tyX5 k) = if ce_rty 5 k then .null else .int 0 := by decide +kernel
theorem ce_dflt6 : ∀ k, k < 5 → defaultValue (tyX6 k) = if ce_rty 6 k then .null else .int 0 := by decide +kernel
theorem ce_dflt7 : ∀ k, k < 7 → defaultValue (tyX7 k) = if ce_rty 7 k then .null else .int 0 := by decide +kernel
theorem ce_dflt8 : ∀ k, k < 14 → defaultValue (tyX0 k) = if ce_rty 8 k then .null else .int 0 := by decide +kernel
theorem ce_dflt : ∀ (ci : Nat) (r : vw_C), vwCl[ci]? = some r → ∃ ty : Nat → FieldType, (∀ k, k < r.2.2 → parseFieldDescriptor (r.2.1 k).2.2.1 = some (ty k)) ∧ ∀ k, k < r.2.2 → defaultValue (ty k) = if ce_rty ci k then .null else .int 0
  | 0, _, h => by cases h; exact ⟨_, tyX0_ok, ce_dflt0⟩
  | 1, _, h => by cases h; exact ⟨_, tyX1_ok, ce_dflt1⟩
  | 2, _, h => by cases h; exact ⟨_, tyX2_ok, ce_dflt2⟩
  | 3, _, h => by cases h; exact ⟨_, tyX3_ok, ce_dflt3⟩
  | 4, _, h => by cases h; exact ⟨_, tyX4_ok, ce_dflt4⟩
  | 5, _, h => by cases h; exact ⟨_, tyX5_ok, ce_dflt5⟩
  | 6, _, h => by cases h; exact ⟨_, tyX6_ok, ce_dflt6⟩
  | 7, _, h => by cases h; exact ⟨_, tyX7_ok, ce_dflt7⟩
  | 8, _, h => by cases h; exact ⟨_, tyX0_ok, ce_dflt8⟩
  | n + 9, _, h => by simp [vwCl] at h
theorem ce_nw_kd (σ : ce_S) (k len : Nat) : ce_kd (ce_nw σ k len) σ.1 = k := if_pos rfl
theorem ce_nw_ln (σ : ce_S) (k len : Nat) : ce_ln (ce_nw σ k len) σ.1 = len := if_pos rfl
theorem ce_nw_gr (σ : ce_S) (k len : Nat) : ce_gr (ce_nw σ k len) σ.1 = fun _ => none := if_pos rfl
theorem ce_nw_gl (σ : ce_S) (k len : Nat) : ce_gl (ce_nw σ k len) σ.1 = fun _ => 0 := if_pos rfl
theorem ce_nd_at (σ : ce_S) (g : ce_D) : ce_nd σ g σ.1 = fun _ => 0 := if_pos rfl
theorem ce_new {ci N idx : Nat} {C : String} {T : u_T} (d : decode Y.2.1 pc = .ok (.new idx, 3)) (hcl : Cond.classLink Y.1.cls idx C ∈ lw_tbl) (hins : Cond.instantiable C N ∈ lw_tbl) (hini : Cond.initialized C ∈ lw_tbl) (hc : vwCl[ci]? = some (C, T, N)) (hcc : kc + 1 ≤ ρ.cells) (hss : ks + N ≤ ρ.slots)
    (kk : ce_WP ρ Y (kc + 1) (ks + N) (pc + 3) L (.ref σ.1 :: st) (ce_nw σ (ci + 1) 0) (ce_nd σ g) Q X) : ce_WP ρ Y kc ks pc L st σ g Q X := by
  intro G A p e s m args below meth c H locs ls C0 I hl
  have kk := fun H1 I1 => kk G A p e s m args below meth c H1 locs ls C0 I1 hl
  obtain ⟨hx, hb, hml, hr, hlk, hown, hts, hK, hZ, hnm, htab⟩ := C0
  have hin := ce_uin (ce_cls ci _ hc).2.2 Y
  have hKn := hK.1.1 ci _ hc
  have hci : ci < 9 := (List.getElem?_eq_some_iff.mp hc).1
  obtain ⟨ty, hty, hdf⟩ := ce_dflt ci _ hc
  refine W.newcK hx hb hown (hts _ (ce_gw_in hcl rfl Y)) (hts _ (ce_gw_in hins rfl Y)) (hts _ (ce_gw_in hini rfl Y)) rfl d hcc hss hKn.2.1 I.2.1 fun H1 kC hkC e1 z1 o1 => ?_
  have hsz : H.size = σ.1 := I.2.1
  refine kk H1 (ce_I_new I (by rw [z1, hsz]) (fun q hq => o1 q (by rw [hsz] at hq; exact hq)) (by omega) (ce_cell_fld (ce_nw_kd σ (ci + 1) 0) hc ?_))
  refine (u_born ty hts hin hKn hkC e1 hty).to (fun k hk => ?_)
  rw [hdf k hk]
  unfold ce_fv
  rw [ce_nw_gr, ce_nd_at]
  rfl
theorem ce_newaG {atype : ArrayType} {n K : Nat} {i : Int32} (d : decode Y.2.1 pc = .ok (.newarray atype, 2)) (harr : Cond.arrayClass (newarray.typeOf atype) ∈ lw_tbl) (hi : i = nI n) (hn : n ≤ 100000) (hby : componentBytes (newarray.typeOf atype) ≤ 8) (hcc : kc + 1 ≤ ρ.cells) (hss : ks + n ≤ ρ.slots)
    (hcell : ∀ (G : ce_G) (s : State) (H1 : Heap) (cA : ClassId), ce_K G s → s.vm.findClass ("[" ++ (newarray.typeOf atype).toString) = some cA → H1[σ.1]? = some (arrV cA n (fun _ => defaultValue (newarray.typeOf atype))) → ce_cell G (ce_nw σ K n) (ce_nd σ g) H1 σ.1) (hK14 : K ≤ 14)
    (kk : ce_WP ρ Y (kc + 1) (ks + n) (pc + 2) L (.ref σ.1 :: st) (ce_nw σ K n) (ce_nd σ g) Q X) : ce_WP ρ Y kc ks pc L (.int i :: st) σ g Q X := by
  intro G A p e s m args below meth c H locs ls C0 I hl
  have kk := fun H1 I1 => kk G A p e s m args below meth c H1 locs ls C0 I1 hl
  obtain ⟨hx, hb, hml, hr, hlk, hown, hts, hK, hZ, hnm, htab⟩ := C0
  subst hi
  have h31 : n < 2 ^ 31 := by omega
  have hsz : H.size = σ.1 := I.2.1
  refine va_newaK hx hb (hts _ (ce_gw_in harr rfl Y)) rfl d rfl (nI_pos h31) (nI_clamp h31) (Nat.le_trans (Nat.mul_le_mul hn hby) (by decide)) hcc hss hsz fun H1 cA e1 z1 o1 hAr hNm => ?_
  exact kk H1 (ce_I_new I (by rw [z1, hsz]) (fun q hq => o1 q (by rw [hsz] at hq; exact hq)) hK14 (hcell G s H1 cA hK hNm e1))
theorem ce_cellN {G : ce_G} {H1 : Heap} {K n : Nat} (h : (K = 10 → H1[σ.1]? = some (arrV (G.2.2 0) n (fun _ => .int 0))) ∧ (K = 11 → H1[σ.1]? = some (arrV (G.2.2 1) n (fun _ => .int 0))) ∧ (K = 12 → H1[σ.1]? = some (arrV (G.2.2 2) n (fun _ => .int 0))) ∧ (K = 13 → H1[σ.1]? = some (arrV (G.2.2 3) n (fun _ => .null))) ∧ (K = 14 → H1[σ.1]? = some (arrV (G.2.2 4) n (fun _ => .long 0)))) (h9 : 10 ≤ K) : ce_cell G (ce_nw σ K n) (ce_nd σ g) H1 σ.1 := by
  unfold ce_cell
  rw [ce_nw_kd, ce_nw_ln, ce_nw_gr, ce_nw_gl, ce_nd_at]
  exact ⟨fun ci r h2 hr => by have := (List.getElem?_eq_some_iff.mp hr).1; have h7 : ci < 9 := this; omega, h⟩
theorem ce_newaI {n : Nat} {i : Int32} (d : decode Y.2.1 pc = .ok (.newarray .int, 2)) (harr : Cond.arrayClass .int ∈ lw_tbl) (hi : i = nI n) (hn : n ≤ 100000) (hcc : kc + 1 ≤ ρ.cells) (hss : ks + n ≤ ρ.slots) (kk : ce_WP ρ Y (kc + 1) (ks + n) (pc + 2) L (.ref σ.1 :: st) (ce_nw σ 10 n) (ce_nd σ g) Q X) : ce_WP ρ Y kc ks pc L (.int i :: st) σ g Q X := by
  refine ce_newaG d harr hi hn (by decide) hcc hss (fun G s H1 cA hK hNm e1 => ?_) (by omega) kk
  have h9 : s.vm.findClass ("[" ++ FieldType.int.toString) = some (G.2.2 0) := (ce_tyK hK 0 _ rfl).2
  cases Option.some.inj (hNm.symm.trans h9)
  exact ce_cellN ⟨fun _ => e1, fun h => by omega, fun h => by omega, fun h => by omega, fun h => by omega⟩ (by omega)
theorem ce_newaC {n : Nat} {i : Int32} (d : decode Y.2.1 pc = .ok (.newarray .char, 2)) (harr : Cond.arrayClass .char ∈ lw_tbl) (hi : i = nI n) (hn : n ≤ 100000) (hcc : kc + 1 ≤ ρ.cells) (hss : ks + n ≤ ρ.slots) (kk : ce_WP ρ Y (kc + 1) (ks + n) (pc + 2) L (.ref σ.1 :: st) (ce_nw σ 11 n) (ce_nd σ g) Q X) : ce_WP ρ Y kc ks pc L (.int i :: st) σ g Q X := by
  refine ce_newaG d harr hi hn (by decide) hcc hss (fun G s H1 cA hK hNm e1 => ?_) (by omega) kk
  have h9 : s.vm.findClass ("[" ++ FieldType.char.toString) = some (G.2.2 1) := (ce_tyK hK 1 _ rfl).2
  cases Option.some.inj (hNm.symm.trans h9)
  exact ce_cellN ⟨fun h => by omega, fun _ => e1, fun h => by omega, fun h => by omega, fun h => by omega⟩ (by omega)
theorem ce_newaZ {n : Nat} {i : Int32} (d : decode Y.2.1 pc = .ok (.newarray .boolean, 2)) (harr : Cond.arrayClass .boolean ∈ lw_tbl) (hi : i = nI n) (hn : n ≤ 100000) (hcc : kc + 1 ≤ ρ.cells) (hss : ks + n ≤ ρ.slots) (kk : ce_WP ρ Y (kc + 1) (ks + n) (pc + 2) L (.ref σ.1 :: st) (ce_nw σ 12 n) (ce_nd σ g) Q X) : ce_WP ρ Y kc ks pc L (.int i :: st) σ g Q X := by
  refine ce_newaG d harr hi hn (by decide) hcc hss (fun G s H1 cA hK hNm e1 => ?_) (by omega) kk
  have h9 : s.vm.findClass ("[" ++ FieldType.boolean.toString) = some (G.2.2 2) := (ce_tyK hK 2 _ rfl).2
  cases Option.some.inj (hNm.symm.trans h9)
  exact ce_cellN ⟨fun h => by omega, fun h => by omega, fun _ => e1, fun h => by omega, fun h => by omega⟩ (by omega)
theorem ce_newaJ {n : Nat} {i : Int32} (d : decode Y.2.1 pc = .ok (.newarray .long, 2)) (harr : Cond.arrayClass .long ∈ lw_tbl) (hi : i = nI n) (hn : n ≤ 100000) (hcc : kc + 1 ≤ ρ.cells) (hss : ks + n ≤ ρ.slots) (kk : ce_WP ρ Y (kc + 1) (ks + n) (pc + 2) L (.ref σ.1 :: st) (ce_nw σ 14 n) (ce_nd σ g) Q X) : ce_WP ρ Y kc ks pc L (.int i :: st) σ g Q X := by
  refine ce_newaG d harr hi hn (by decide) hcc hss (fun G s H1 cA hK hNm e1 => ?_) (by omega) kk
  have h9 : s.vm.findClass ("[" ++ FieldType.long.toString) = some (G.2.2 4) := (ce_tyK hK 4 _ rfl).2
  cases Option.some.inj (hNm.symm.trans h9)
  exact ce_cellN ⟨fun h => by omega, fun h => by omega, fun h => by omega, fun h => by omega, fun _ => e1⟩ (by omega)
theorem ce_anew {n idx : Nat} {i : Int32} (d : decode Y.2.1 pc = .ok (.anewarray idx, 3)) (hcl : Cond.classLink Y.1.cls idx "CellarClub$Club" ∈ lw_tbl) (hi : i = nI n) (hn : n ≤ 100000) (hcc : kc + 1 ≤ ρ.cells) (hss : ks + n ≤ ρ.slots) (kk : ce_WP ρ Y (kc + 1) (ks + n) (pc + 3) L (.ref σ.1 :: st) (ce_nw σ 13 n) (ce_nd σ g) Q X) : ce_WP ρ Y kc ks pc L (.int i :: st) σ g Q X := by
  intro G A p e s m args below meth c H locs ls C0 I hl
  have kk := fun H1 I1 => kk G A p e s m args below meth c H1 locs ls C0 I1 hl
  obtain ⟨hx, hb, hml, hr, hlk, hown, hts, hK, hZ, hnm, htab⟩ := C0
  subst hi
  have h31 : n < 2 ^ 31 := by omega
  have hsz : H.size = σ.1 := I.2.1
  have hcl31 := nI_clamp h31
  refine W.anew hx hb hown (hts _ (ce_gw_in hcl rfl Y)) (va_AO.use hK.2.2.2.2.2) rfl d rfl (nI_pos h31) (by rw [hcl31]; omega) hcc (by rw [hcl31]; exact hss) fun cA kA comp f1 f2 f3 f4 => ?_
  rw [hcl31]
  obtain ⟨kA', comp', -, -, -, h9⟩ := (ce_tyK hK 3 _ rfl).2
  have e9 : cA = G.2.2 3 := Option.some.inj (f1.symm.trans h9)
  subst e9
  rw [hsz]
  refine kk _ (ce_I_new I (by rw [Array.size_push]) (fun q hq => by rw [Array.getElem?_push, if_neg (Nat.ne_of_lt hq)]) (by omega) ?_)
  refine ce_cellN ⟨fun h => by omega, fun h => by omega, fun h => by omega, fun _ => ?_, fun h => by omega⟩ (by omega)
  rw [← hsz, Array.getElem?_push_size, ← arrV_new]
theorem ce_objInit {idx a : Nat} (d : decode Y.2.1 pc = .ok (.invokespecial idx, 3)) (hl : Cond.methodLink Y.1.cls idx Lib.objectInit ∈ lw_tbl) (hin : Cond.instanceMethod Lib.objectInit ∈ lw_tbl) (hco : Cond.code Lib.objectInit ⟨#[0xb1]⟩ 1 none ∈ lw_tbl) (hf : 1 ≤ ρ.frames) (hlo : (st.map fun v => v.category).sum + 12 ≤ ρ.locals) (kk : ce_WP ρ Y kc ks (pc + 3) L st σ g Q X) : ce_WP ρ Y kc ks pc L (.ref a :: st) σ g Q X := by
  intro G A p e s m args below meth c H locs ls C0 I hl'
  have kk := kk G A p e s m args below meth c H locs ls C0 I hl'
  obtain ⟨hx, hb, hml, hr, hlk, hown, hts, hK, hZ, hnm, htab⟩ := C0
  exact W.objInit hx hb hown (hts _ (ce_gw_in hl rfl Y)) (hts _ (ce_gw_in hin rfl Y)) (hts _ (ce_gw_in hco rfl Y)) rfl (by rw [hml]; exact hl'.1) rfl d hf (by show 2 * 0 + _ + 12 ≤ _; omega) kk
end CEF
