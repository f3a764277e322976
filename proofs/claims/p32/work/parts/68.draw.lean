theorem and31w (x : Int32) : ∃ X : Nat, X < 2147483648 ∧ x &&& (2147483647 : Int32) = nI X := by
  have hx : x = nI x.toBitVec.toNat := by
    apply Int32.toBitVec_inj.1
    show x.toBitVec = BitVec.ofNat 32 x.toBitVec.toNat
    simp
  refine ⟨x.toBitVec.toNat &&& 2147483647, ?_, ?_⟩
  · have := Nat.and_le_right (n := x.toBitVec.toNat) (m := 2147483647)
    omega
  · rw [← kp_and, ← hx]
    rfl
def dv (L0 : Nat) (xs : Nat → Int32) (kz : Nat) : Int32 := (if kz < L0 then xs kz else (15593429 : Int32) * nI kz + nI 10433) &&& (2147483647 : Int32)
def ce_E9 (G : ce_G) (A : Nat → Prop) (σ : ce_S) (g : ce_D) (b0 L0 : Nat) (xs : Nat → Int32) (U : State) : Prop := ce_E G A σ g U ∧ va_X b0 L0 xs U U.heap ∧ b0 < U.heap.size ∧ ¬ A b0
theorem ce_E9_blind {G : ce_G} {A : Nat → Prop} {av : List Value} {σ : ce_S} {g : ce_D} {b0 L0 : Nat} {xs : Nat → Int32} : FrameBlind (va_Pc av (ce_E9 G A σ g b0 L0 xs)) := by
  intro a U f mk h
  obtain ⟨h1, h2, h3, h4⟩ := h
  obtain ⟨h5, h6⟩ := ce_E_blind a U f mk ⟨h1, h2⟩
  exact ⟨h5, h6, va_X.moved (u := U) (U := U.calling f mk a) (Vm.Alike.refl U.vm) h3, h4⟩
theorem w_L_draw {G : ce_G} {A : Nat → Prop} {p : Program} {e : Env} {s : State} {m : MethodId} {args : Array Value} {below : List Frame} {meth : Method} {c : Code} {b0 L0 kz : Nat} {xs : Nat → Int32} (Cx : ce_CL mL_draw G A p s m args meth c) (hS : va_X b0 L0 xs s s.heap) (hbl : b0 < s.heap.size) (hbA : ¬ A b0) (hL : L0 ≤ 100000) (hk : kz < 1000) (σ : ce_S) (g : ce_D) : ce_WL mL_draw G A p e s m args below meth c (MQ below (ce_Q G (ce_pv (dv L0 xs kz) σ g) A) args s 0 0 A) (ce_r 0) 0 0 0 [some (.ref b0), some (.int (nI kz))] [] σ g := by
  have fin : ∀ w : Int32, dv L0 xs kz = w &&& (2147483647 : Int32) → ce_WL mL_draw G A p e s m args below meth c (MQ below (ce_Q G (ce_pv (dv L0 xs kz) σ g) A) args s 0 0 A) (ce_r 0) 0 0 20 [some (.ref b0), some (.int (nI kz))] [.int w] σ g := fun w hw => by
    refine sl_ldc Cx dL_draw_20 kRL_8 ?_
    refine sl_iand Cx (z := dv L0 xs kz) dL_draw_22 hw.symm ?_
    intro H locs ls I hl
    exact W.iret Cx.1 Cx.2.1 Cx.2.2.2.1 (fun t ht hW => ⟨_, σ, g, rfl, ⟨rfl, rfl, rfl⟩, by rw [ht]; exact I.1, by rw [ht]; exact I.2.1, I.2.2.2.2, I.2.2.1.F ht⟩) I.2.2.1.2.2 dL_draw_23 Cx.2.2.2.2.1
  refine sl_iload_n Cx dL_draw_0 rfl ?_
  refine sl_aload_n Cx dL_draw_1 rfl ?_
  refine sl_slen Cx hS hbl hbA dL_draw_2 ?_
  refine sl_icmp_geN Cx (tgt := 12) dL_draw_3 (by decide) rfl rfl (by omega) (by omega) (fun q => ?_) (fun q => ?_)
  · refine sl_ldc Cx dL_draw_12 kRL_7 ?_
    refine sl_iload_n Cx dL_draw_14 rfl ?_
    refine sl_imul Cx (z := (15593429 : Int32) * nI kz) dL_draw_15 rfl ?_
    refine sl_sipush Cx (v := nI 10433) dL_draw_16 (by decide) ?_
    refine sl_iadd Cx (z := (15593429 : Int32) * nI kz + nI 10433) dL_draw_19 rfl ?_
    exact fin _ (by unfold dv; rw [if_neg (by omega)])
  · refine sl_aload_n Cx dL_draw_6 rfl ?_
    refine sl_iload_n Cx dL_draw_7 rfl ?_
    refine sl_sld Cx hS hbl hbA hL dL_draw_8 (n := kz) rfl q ?_
    refine sl_goto Cx (tgt := 20) dL_draw_9 (by decide) ?_
    exact fin _ (by unfold dv; rw [if_pos q])
theorem m_L_draw {G : ce_G} {σ : ce_S} {g : ce_D} {b0 L0 kz : Nat} {xs : Nat → Int32} (hL : L0 ≤ 100000) (hk : kz < 1000) : Met G.1 yL_draw (ce_ws mL_draw) (ce_r 0) (va_Pc [.ref b0, .int (nI kz)] (ce_E9 G (ce_A σ) σ g b0 L0 xs)) (ce_Q G (ce_pv (dv L0 xs kz) σ g) (ce_A σ)) 0 0 (ce_A σ) := by
  refine Met.ofW (cc := cL_draw) (maxL := 2) (ret := some .int) (by decide) (ws' := ce_gw) (by unfold ce_ws ce_cw; rfl) ?_
  intro p e s m args below meth c s₁ B hml hv
  obtain ⟨rfl, ⟨h1, h2, h3, h4, h5, h6⟩, hX, hbl, hbA⟩ := hv
  have hts := atoms_spec (ws := ce_ws mL_draw) B.pre
  have hl := ce_L_entry [.ref b0, .int (nI kz)] (n := 2) (Nat.le_of_ble_eq_true rfl)
  rw [lg_entry_eq]
  exact w_L_draw ⟨B.exec, B.bytes, hml, B.returns, B.notSynchronized, findClass_of_methodNamed B.named, hts, h5, h6⟩ hX hbl hbA hL hk σ g s.heap [] _ ⟨h1, h2, va_S.rf, fun q hq => h3 q (by rw [← h2]; exact hq), h4⟩ hl
theorem sl_draw {G : ce_G} {A : Nat → Prop} {p : Program} {e : Env} {s : State} {m : MethodId} {args : Array Value} {below : List Frame} {meth : Method} {c : Code} {Z : State → Prop} {b0 L0 : Nat} {xs : Nat → Int32} (Cx : ce_CL mL_law G A p s m args meth c) (hS : va_X b0 L0 xs s s.heap) (hbl : b0 < s.heap.size) (hbA : ¬ A b0) (hL : L0 ≤ 100000) {k pc kz : Nat} {L : List (Option Value)} {rest : List Value} {σ : ce_S} {g : ce_D} (hkz : kz < 1000) (hk : k ≤ 590000) (d : decode mL_law.2.1 pc = .ok (.invokestatic 221, 3)) (hrest : (rest.map fun v => v.category).sum ≤ 8) (kk : ∀ X : Nat, X < 2147483648 → ce_WL mL_law G A p e s m args below meth c Z room_1 (1000 + k) (12000 + 6 * k) (pc + 3) L (.int (nI X) :: rest) σ g) : ce_WL mL_law G A p e s m args below meth c Z room_1 (1000 + k) (12000 + 6 * k) pc L (.int (nI kz) :: .ref b0 :: rest) σ g := by
  intro H locs ls I hl
  obtain ⟨hx, hb', hml, hr, hlk, hown, hts, hK, hZ⟩ := id Cx
  obtain ⟨hp, hh, hcw, hi, hsta⟩ := hL_draw
  have hup := ce_A_up I
  obtain ⟨X9, hX9, e9⟩ := and31w (if kz < L0 then xs kz else (15593429 : Int32) * nI kz + nI 10433)
  refine sl_join (va_runS (As := [.ref b0, .int (nI kz)]) (rest := rest) (n := 2) ⟨hx, hb', hml, hown, hts⟩ (m_L_draw (xs := xs) (L0 := L0) (b0 := b0) (kz := kz) (σ := σ) (g := g) (G := G) hL hkz) ⟨ce_callB (Y := mL_draw) (ρ' := ce_r 0) hts hp hh hcw hi kRL_221 ⟨Nat.le_of_ble_eq_true rfl, Nat.le_of_ble_eq_true rfl⟩, hts _ (ce_gw_in hsta rfl mL_draw)⟩ ⟨ce_E9_blind, fun U hU hW => ⟨rfl, sl_E_at hK hZ I hU hW, ?_, ?_, fun h => hbA (hup _ h)⟩⟩ rfl rfl hl.1 rfl (lv_room hrest) d ⟨show 1000 + k + 0 ≤ 600104 by omega, show 12000 + 6 * k + 0 ≤ 7301314 by omega⟩) I hl (fun v σ' g' h => ?_)
  · rw [hU]
    exact (hS.kept (I.2.2.1.2.1 b0 hbl hbA)).moved hW.alike
  · rw [hU]
    exact Nat.lt_of_lt_of_le hbl I.2.2.1.1
  · obtain ⟨rfl, rfl, rfl⟩ := h
    have e8 : dv L0 xs kz = nI X9 := e9
    rw [e8]
    exact kk X9 hX9
