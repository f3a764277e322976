/-- what both objects hold between two calls of the law: the class's at a, the reference's at a + 411, the array of one long at a + 422 -/
def sl_iv (σ : ce_S) (g : ce_D) (a : Nat) (S : ks_S) : Prop := (∃ b, ce_LX σ a b ∧ ce_rX g a b S) ∧ ce_LM σ (a + 411) ∧ (ce_kd σ (a + 422) = 14 ∧ ce_ln σ (a + 422) = 1) ∧ ce_rM g (a + 411) S ∧ kl_iv S
theorem LM_kp {σ σ1 : ce_S} {d : Nat} (h : ce_LM σ d) (e1 : ce_kd σ1 = ce_kd σ) (e2 : ce_ln σ1 = ce_ln σ) (e3 : ce_gr σ1 d = ce_gr σ d) : ce_LM σ1 d := by
  unfold ce_LM ce_LA at *
  rw [e1, e2, e3]
  exact h
theorem rM_far {g g1 : ce_D} {a : Nat} {S : ks_S} (h : ce_rM g (a + 411) S) (f : ce_fr a (a + 411) g g1) : ce_rM g1 (a + 411) S := rM_kp h (congrFun (f _ (by omega)) 2) (congrFun (f _ (by omega)) 9) (f _ (by omega)) (f _ (by omega)) (f _ (by omega)) (f _ (by omega)) (f _ (by omega))
theorem rX_far {g g1 : ce_D} {a : Nat} {b : Nat → Nat} {S : ks_S} (hr : ce_rX g a b S) (hb : ce_bk (a + 63) b) (hq : ∀ x, a ≤ x → x < a + 411 → g1 x = g x) : ce_rX g1 a b S := by
  obtain ⟨r1, r2, ⟨r3, r4⟩, r5, r6, r7, r8⟩ := hr
  refine ⟨r1.kp (fun i hi => hq _ (by omega) (by omega)), ⟨r2.1, ?_, fun i hi => ?_⟩, ⟨fun s hs => ?_, fun s hs hF => ?_⟩, r5, ?_, fun i hi => ?_, ?_⟩
  · rw [hq _ (by omega) (by omega)]; exact r2.2.1
  · have h14 : sn S ≤ 14 := r2.1
    have hi2 : i < sn S := hi
    have := hb.in (i := i) (by omega)
    exact (r2.2.2 i hi).kp (fun j hj => hq _ (by omega) (by omega))
  · rw [hq _ (by omega) (by omega)]; exact r3 s hs
  · exact (r4 s hs hF).kp (fun i hi => hq _ (by omega) (by omega))
  · rw [hq _ (by omega) (by omega)]; exact r6
  · rw [hq _ (by omega) (by omega)]; exact r7 i hi
  · exact r8.kp (fun i hi => hq _ (by omega) (by omega))
theorem iv_1 {σ σ1 : ce_S} {g g1 : ce_D} {a : Nat} {S : ks_S} (hD : ce_LM σ (a + 411)) (hw : ce_kd σ (a + 422) = 14 ∧ ce_ln σ (a + 422) = 1) (hm : ce_rM g (a + 411) S) (k : kl_s a σ σ1) (f : ce_fr a (a + 411) g g1) : ce_LM σ1 (a + 411) ∧ (ce_kd σ1 (a + 422) = 14 ∧ ce_ln σ1 (a + 422) = 1) ∧ ce_rM g1 (a + 411) S := ⟨LM_kp hD k.2.1 k.2.2.1 (k.2.2.2 _ (by omega)), by rw [k.2.1, k.2.2.1]; exact hw, rM_far hm f⟩
theorem iv_2 {σ : ce_S} {g g1 : ce_D} {a : Nat} {S : ks_S} (hX : ∃ b, ce_LX σ a b ∧ ce_rX g a b S) (hD : ce_LM σ (a + 411)) (hw : ce_kd σ (a + 422) = 14 ∧ ce_ln σ (a + 422) = 1) (hm : ce_rM g1 (a + 411) S) (f : ce_fr (a + 411) (a + 411 + 11) g g1) (iv : kl_iv S) : sl_iv σ g1 a S := by
  obtain ⟨b, h1, h2⟩ := hX
  exact ⟨⟨b, h1, rX_far h2 h1.2.2.2.1.2.2.2 (fun x h3 h4 => f x (by omega))⟩, hD, hw, hm, iv⟩
def sl_t (x y : Int32) : Int64 := (x.toInt64 <<< ((nI 32).toInt64 &&& 63)) ||| (y.toInt64 &&& (4294967295 : Int64))
theorem and31 (x : Int32) : ∃ k, k < 32 ∧ x &&& nI 31 = nI k := by
  have hx : x = nI x.toBitVec.toNat := by
    apply Int32.toBitVec_inj.1
    show x.toBitVec = BitVec.ofNat 32 x.toBitVec.toNat
    simp
  refine ⟨x.toBitVec.toNat &&& 31, ?_, ?_⟩
  · have := Nat.and_le_right (n := x.toBitVec.toNat) (m := 31)
    omega
  · rw [hx, kp_and, ← hx]
set_option maxHeartbeats 2000000 in
set_option maxRecDepth 20000 in
theorem c_0 {G : ce_G} {A : Nat → Prop} {p : Program} {e : Env} {s : State} {m : MethodId} {args : Array Value} {below : List Frame} {meth : Method} {c : Code} {Z : State → Prop} {b0 L0 : Nat} {xs : Nat → Int32} (Cx : ce_CL G A p s m args meth c) (hS : va_X b0 L0 xs s s.heap) (hbl : b0 < s.heap.size) (hbA : ¬ A b0) (hL : L0 ≤ 100000) {a i kc ks : Nat} (hi : i + 5 ≤ L0) (hc : kc ≤ 601000) (hs9 : ks ≤ 7290000) {σ : ce_S} {g : ce_D} {S : ks_S} (iv : sl_iv σ g a S) (cont : ∀ σ' g' S', sl_iv σ' g' a S' → ce_WL G A p e s m args below meth c Z room_1 (kc + 1) (ks + 6) 1931 [some (.ref b0), some (.ref a), some (.ref (a + 411)), some (.ref (a + 422)), some (.int (nI (i))), none, none] [] σ' g') : ce_WL G A p e s m args below meth c Z room_1 kc ks 168 [some (.ref b0), some (.ref a), some (.ref (a + 411)), some (.ref (a + 422)), some (.int (nI (i))), none, none] [] σ g := by
  obtain ⟨⟨b, hX, hr⟩, hD, hw, hm, iv⟩ := iv
  have h14 : sn S ≤ 14 := hr.2.1.1
  obtain ⟨R, V, S2, hR, iv2, hh, hhm⟩ := b_append iv h14 (xs (i + 1))
  refine sl_aload_n Cx dL_law_168 rfl ?_
  refine sl_aload_n Cx dL_law_169 rfl ?_
  refine sl_iload Cx dL_law_170 rfl ?_
  refine sl_iconst Cx (v := nI 1) dL_law_172 (by decide) ?_
  refine sl_iadd Cx (z := nI (i + 1)) dL_law_173 (nI_add _ _) ?_
  refine sl_sld Cx hS hbl hbA hL dL_law_174 (n := (i + 1)) rfl (by omega) ?_
  refine sl_aload_n Cx dL_law_175 rfl ?_
  refine sl_callSW Cx dL_law_176 hL_append kRL_104 (hh σ g a (a + 422) b hX hw hr) rfl rfl (by decide) (Nat.le_of_ble_eq_true rfl) (by show kc + 1 ≤ 601024; omega) (by show ks + 6 ≤ 7293034; omega) (fun v σ1 g1 h1 => ?_)
  obtain ⟨rfl, k1, k2, k3, k4⟩ := h1
  obtain ⟨hD1, hw1, hm1⟩ := iv_1 hD hw hm k1 k4
  refine sl_istore Cx dL_law_179 (Nat.le_of_ble_eq_true rfl) rfl ?_
  refine sl_aload_n Cx dL_law_181 rfl ?_
  refine sl_aload_n Cx dL_law_182 rfl ?_
  refine sl_iload Cx dL_law_183 rfl ?_
  refine sl_iconst Cx (v := nI 1) dL_law_185 (by decide) ?_
  refine sl_iadd Cx (z := nI (i + 1)) dL_law_186 (nI_add _ _) ?_
  refine sl_sld Cx hS hbl hbA hL dL_law_187 (n := (i + 1)) rfl (by omega) ?_
  refine sl_callV Cx dL_law_188 hX8_append kRL_109 (hhm σ1 g1 (a + 411) hD1 hm1) rfl rfl hD1.1 rfl (by decide) (Nat.le_of_ble_eq_true rfl) (by show kc + 1 + 0 ≤ 601024; omega) (by show ks + 6 + 0 ≤ 7293034; omega) (fun v σ2 g2 h2 => ?_)
  obtain ⟨z, rfl, rfl, z1, z2, z3, z4⟩ := h2
  refine sl_istore Cx dL_law_191 (Nat.le_of_ble_eq_true rfl) rfl ?_
  refine sl_aload_n Cx dL_law_193 rfl ?_
  refine sl_callV Cx dL_law_194 hX8_thrown kRL_110 (m_X8_thrown (a + 411) hD1) rfl rfl hD1.1 rfl (by decide) (Nat.le_of_ble_eq_true rfl) (by show kc + 1 + 0 + 0 ≤ 601024; omega) (by show ks + 6 + 0 + 0 ≤ 7293034; omega) (fun v σ3 g3 h3 => ?_)
  obtain ⟨rfl, rfl, rfl⟩ := h3
  refine sl_iload Cx dL_law_197 rfl ?_
  refine sl_icmp_eq Cx (tgt := 204) dL_law_199 (by decide) (fun _ => ?_) (fun q => absurd z2 q)
  refine sl_iload Cx dL_law_204 rfl ?_
  refine sl_if_ne Cx (tgt := 221) dL_law_206 (by decide) (fun _ => ?_) (fun q => ?_)
  · refine sl_goto Cx (tgt := 1931) dL_law_221 (by decide) ?_
    refine sl_drop (L' := [some (.ref b0), some (.ref a), some (.ref (a + 411)), some (.ref (a + 422)), some (.int (nI (i))), none, none]) (ce_le_s rfl (ce_le_s rfl (ce_le_s rfl (ce_le_s rfl (ce_le_s rfl (ce_le_n (ce_le_n ce_le_e))))))) ?_
    exact cont _ _ _ (iv_2 k3 hD1 hw1 z3 z4 iv2)
  · have hR0 : R = 0 := (nI_eq (by omega) (by decide)).mp (q.trans nI_0.symm)
    refine sl_aload_n Cx dL_law_209 rfl ?_
    refine sl_iconst Cx (v := nI 0) dL_law_210 (by decide) ?_
    refine sl_lald Cx (n := 0) (len := 1) dL_law_211 hw1.1 rfl hw1.2 (by decide) (by decide) ?_
    refine sl_iload Cx dL_law_212 rfl ?_
    refine sl_i2l Cx (v := z.toInt64) dL_law_214 rfl ?_
    refine sl_lcmp Cx dL_law_215 rfl ?_
    refine sl_if_eq Cx (tgt := 221) dL_law_216 (by decide) (fun _ => ?_) (fun q2 => absurd (ce_lg_lt.2.1.mpr (by rw [k2 hR0, z1 hR0])) q2)
    refine sl_goto Cx (tgt := 1931) dL_law_221 (by decide) ?_
    refine sl_drop (L' := [some (.ref b0), some (.ref a), some (.ref (a + 411)), some (.ref (a + 422)), some (.int (nI (i))), none, none]) (ce_le_s rfl (ce_le_s rfl (ce_le_s rfl (ce_le_s rfl (ce_le_s rfl (ce_le_n (ce_le_n ce_le_e))))))) ?_
    exact cont _ _ _ (iv_2 k3 hD1 hw1 z3 z4 iv2)
set_option maxHeartbeats 2000000 in
set_option maxRecDepth 20000 in
theorem c_1 {G : ce_G} {A : Nat → Prop} {p : Program} {e : Env} {s : State} {m : MethodId} {args : Array Value} {below : List Frame} {meth : Method} {c : Code} {Z : State → Prop} {b0 L0 : Nat} {xs : Nat → Int32} (Cx : ce_CL G A p s m args meth c) (hS : va_X b0 L0 xs s s.heap) (hbl : b0 < s.heap.size) (hbA : ¬ A b0) (hL : L0 ≤ 100000) {a i kc ks : Nat} (hi : i + 5 ≤ L0) (hc : kc ≤ 601000) (hs9 : ks ≤ 7290000) {σ : ce_S} {g : ce_D} {S : ks_S} (iv : sl_iv σ g a S) (cont : ∀ σ' g' S', sl_iv σ' g' a S' → ce_WL G A p e s m args below meth c Z room_1 (kc + 1) (ks + 6) 1931 [some (.ref b0), some (.ref a), some (.ref (a + 411)), some (.ref (a + 422)), some (.int (nI (i))), none, none] [] σ' g') : ce_WL G A p e s m args below meth c Z room_1 kc ks 224 [some (.ref b0), some (.ref a), some (.ref (a + 411)), some (.ref (a + 422)), some (.int (nI (i))), none, none] [] σ g := by
  obtain ⟨⟨b, hX, hr⟩, hD, hw, hm, iv⟩ := iv
  have h14 : sn S ≤ 14 := hr.2.1.1
  refine sl_aload_n Cx dL_law_224 rfl ?_
  refine sl_callV Cx dL_law_225 hX7_clearText kRL_113 (kl_of_r hX (m_X7_clearText_ok a b S hX hr iv.1)) rfl rfl hX.1 rfl (by decide) (Nat.le_of_ble_eq_true rfl) (by show kc + 0 ≤ 601024; omega) (by show ks + 0 ≤ 7293034; omega) (fun v σ1 g1 h1 => ?_)
  obtain ⟨rfl, k1, k3, k4⟩ := h1
  obtain ⟨hD1, hw1, hm1⟩ := iv_1 hD hw hm k1 k4
  refine sl_aload_n Cx dL_law_228 rfl ?_
  refine sl_callV Cx dL_law_229 hX8_clearText kRL_116 (kl_m_ok (m_X8_clearText_ok (a + 411) S hD1 hm1 iv.1)) rfl rfl hD1.1 rfl (by decide) (Nat.le_of_ble_eq_true rfl) (by show kc + 0 + 0 ≤ 601024; omega) (by show ks + 0 + 0 ≤ 7293034; omega) (fun v σ2 g2 h2 => ?_)
  obtain ⟨z, rfl, rfl, z1, z2, z3, z4⟩ := h2
  refine sl_icmp_eq Cx (tgt := 1931) dL_law_232 (by decide) (fun _ => ?_) (fun q => absurd (z1 rfl).symm q)
  refine sl_widen (kc' := kc + 1) (ks' := ks + 6) (by show kc + 0 + 0 ≤ kc + 1; omega) (by show ks + 0 + 0 ≤ ks + 6; omega) ?_
  refine sl_drop (L' := [some (.ref b0), some (.ref a), some (.ref (a + 411)), some (.ref (a + 422)), some (.int (nI (i))), none, none]) (ce_le_s rfl (ce_le_s rfl (ce_le_s rfl (ce_le_s rfl (ce_le_s rfl (ce_le_n (ce_le_n ce_le_e))))))) ?_
  exact cont _ _ _ (iv_2 k3 hD1 hw1 z3 z4 ⟨iv.1.wipe, oz_text iv.2⟩)
set_option maxHeartbeats 2000000 in
set_option maxRecDepth 20000 in
theorem c_2 {G : ce_G} {A : Nat → Prop} {p : Program} {e : Env} {s : State} {m : MethodId} {args : Array Value} {below : List Frame} {meth : Method} {c : Code} {Z : State → Prop} {b0 L0 : Nat} {xs : Nat → Int32} (Cx : ce_CL G A p s m args meth c) (hS : va_X b0 L0 xs s s.heap) (hbl : b0 < s.heap.size) (hbA : ¬ A b0) (hL : L0 ≤ 100000) {a i kc ks : Nat} (hi : i + 5 ≤ L0) (hc : kc ≤ 601000) (hs9 : ks ≤ 7290000) {σ : ce_S} {g : ce_D} {S : ks_S} (iv : sl_iv σ g a S) (cont : ∀ σ' g' S', sl_iv σ' g' a S' → ce_WL G A p e s m args below meth c Z room_1 (kc + 1) (ks + 6) 1931 [some (.ref b0), some (.ref a), some (.ref (a + 411)), some (.ref (a + 422)), some (.int (nI (i))), none, none] [] σ' g') : ce_WL G A p e s m args below meth c Z room_1 kc ks 237 [some (.ref b0), some (.ref a), some (.ref (a + 411)), some (.ref (a + 422)), some (.int (nI (i))), none, none] [] σ g := by
  obtain ⟨⟨b, hX, hr⟩, hD, hw, hm, iv⟩ := iv
  have h14 : sn S ≤ 14 := hr.2.1.1
  refine sl_aload_n Cx dL_law_237 rfl ?_
  refine sl_callV Cx dL_law_238 hX7_errorPosition kRL_117 (kl_of_r hX (m_X7_errorPosition_ok a b S hX hr iv.1)) rfl rfl hX.1 rfl (by decide) (Nat.le_of_ble_eq_true rfl) (by show kc + 0 ≤ 601024; omega) (by show ks + 0 ≤ 7293034; omega) (fun v σ1 g1 h1 => ?_)
  obtain ⟨rfl, k1, k3, k4⟩ := h1
  obtain ⟨hD1, hw1, hm1⟩ := iv_1 hD hw hm k1 k4
  refine sl_aload_n Cx dL_law_241 rfl ?_
  refine sl_callV Cx dL_law_242 hX8_errorPosition kRL_120 (kl_m_ok (m_X8_errorPosition_ok (a + 411) S hD1 hm1 iv.1)) rfl rfl hD1.1 rfl (by decide) (Nat.le_of_ble_eq_true rfl) (by show kc + 0 + 0 ≤ 601024; omega) (by show ks + 0 + 0 ≤ 7293034; omega) (fun v σ2 g2 h2 => ?_)
  obtain ⟨z, rfl, rfl, z1, z2, z3, z4⟩ := h2
  refine sl_icmp_eq Cx (tgt := 1931) dL_law_245 (by decide) (fun _ => ?_) (fun q => absurd (z1 rfl).symm q)
  refine sl_widen (kc' := kc + 1) (ks' := ks + 6) (by show kc + 0 + 0 ≤ kc + 1; omega) (by show ks + 0 + 0 ≤ ks + 6; omega) ?_
  refine sl_drop (L' := [some (.ref b0), some (.ref a), some (.ref (a + 411)), some (.ref (a + 422)), some (.int (nI (i))), none, none]) (ce_le_s rfl (ce_le_s rfl (ce_le_s rfl (ce_le_s rfl (ce_le_s rfl (ce_le_n (ce_le_n ce_le_e))))))) ?_
  exact cont _ _ _ (iv_2 k3 hD1 hw1 z3 z4 iv)
set_option maxHeartbeats 2000000 in
set_option maxRecDepth 20000 in
theorem c_3 {G : ce_G} {A : Nat → Prop} {p : Program} {e : Env} {s : State} {m : MethodId} {args : Array Value} {below : List Frame} {meth : Method} {c : Code} {Z : State → Prop} {b0 L0 : Nat} {xs : Nat → Int32} (Cx : ce_CL G A p s m args meth c) (hS : va_X b0 L0 xs s s.heap) (hbl : b0 < s.heap.size) (hbA : ¬ A b0) (hL : L0 ≤ 100000) {a i kc ks : Nat} (hi : i + 5 ≤ L0) (hc : kc ≤ 601000) (hs9 : ks ≤ 7290000) {σ : ce_S} {g : ce_D} {S : ks_S} (iv : sl_iv σ g a S) (cont : ∀ σ' g' S', sl_iv σ' g' a S' → ce_WL G A p e s m args below meth c Z room_1 (kc + 1) (ks + 6) 1931 [some (.ref b0), some (.ref a), some (.ref (a + 411)), some (.ref (a + 422)), some (.int (nI (i))), none, none] [] σ' g') : ce_WL G A p e s m args below meth c Z room_1 kc ks 250 [some (.ref b0), some (.ref a), some (.ref (a + 411)), some (.ref (a + 422)), some (.int (nI (i))), none, none] [] σ g := by
  obtain ⟨⟨b, hX, hr⟩, hD, hw, hm, iv⟩ := iv
  have h14 : sn S ≤ 14 := hr.2.1.1
  obtain ⟨R, V, S2, hR, iv2, hh, hhm⟩ := b_load iv h14
  refine sl_aload_n Cx dL_law_250 rfl ?_
  refine sl_aload_n Cx dL_law_251 rfl ?_
  refine sl_callSW Cx dL_law_252 hL_load kRL_121 (hh σ g a (a + 422) b hX hw hr) rfl rfl (by decide) (Nat.le_of_ble_eq_true rfl) (by show kc + 1 ≤ 601024; omega) (by show ks + 6 ≤ 7293034; omega) (fun v σ1 g1 h1 => ?_)
  obtain ⟨rfl, k1, k2, k3, k4⟩ := h1
  obtain ⟨hD1, hw1, hm1⟩ := iv_1 hD hw hm k1 k4
  refine sl_istore Cx dL_law_255 (Nat.le_of_ble_eq_true rfl) rfl ?_
  refine sl_aload_n Cx dL_law_257 rfl ?_
  refine sl_callV Cx dL_law_258 hX8_load kRL_124 (hhm σ1 g1 (a + 411) hD1 hm1) rfl rfl hD1.1 rfl (by decide) (Nat.le_of_ble_eq_true rfl) (by show kc + 1 + 0 ≤ 601024; omega) (by show ks + 6 + 0 ≤ 7293034; omega) (fun v σ2 g2 h2 => ?_)
  obtain ⟨z, rfl, rfl, z1, z2, z3, z4⟩ := h2
  refine sl_istore Cx dL_law_261 (Nat.le_of_ble_eq_true rfl) rfl ?_
  refine sl_aload_n Cx dL_law_263 rfl ?_
  refine sl_callV Cx dL_law_264 hX8_thrown kRL_110 (m_X8_thrown (a + 411) hD1) rfl rfl hD1.1 rfl (by decide) (Nat.le_of_ble_eq_true rfl) (by show kc + 1 + 0 + 0 ≤ 601024; omega) (by show ks + 6 + 0 + 0 ≤ 7293034; omega) (fun v σ3 g3 h3 => ?_)
  obtain ⟨rfl, rfl, rfl⟩ := h3
  refine sl_iload Cx dL_law_267 rfl ?_
  refine sl_icmp_eq Cx (tgt := 274) dL_law_269 (by decide) (fun _ => ?_) (fun q => absurd z2 q)
  refine sl_iload Cx dL_law_274 rfl ?_
  refine sl_if_ne Cx (tgt := 291) dL_law_276 (by decide) (fun _ => ?_) (fun q => ?_)
  · refine sl_goto Cx (tgt := 1931) dL_law_291 (by decide) ?_
    refine sl_drop (L' := [some (.ref b0), some (.ref a), some (.ref (a + 411)), some (.ref (a + 422)), some (.int (nI (i))), none, none]) (ce_le_s rfl (ce_le_s rfl (ce_le_s rfl (ce_le_s rfl (ce_le_s rfl (ce_le_n (ce_le_n ce_le_e))))))) ?_
    exact cont _ _ _ (iv_2 k3 hD1 hw1 z3 z4 iv2)
  · have hR0 : R = 0 := (nI_eq (by omega) (by decide)).mp (q.trans nI_0.symm)
    refine sl_aload_n Cx dL_law_279 rfl ?_
    refine sl_iconst Cx (v := nI 0) dL_law_280 (by decide) ?_
    refine sl_lald Cx (n := 0) (len := 1) dL_law_281 hw1.1 rfl hw1.2 (by decide) (by decide) ?_
    refine sl_iload Cx dL_law_282 rfl ?_
    refine sl_i2l Cx (v := z.toInt64) dL_law_284 rfl ?_
    refine sl_lcmp Cx dL_law_285 rfl ?_
    refine sl_if_eq Cx (tgt := 291) dL_law_286 (by decide) (fun _ => ?_) (fun q2 => absurd (ce_lg_lt.2.1.mpr (by rw [k2 hR0, z1 hR0])) q2)
    refine sl_goto Cx (tgt := 1931) dL_law_291 (by decide) ?_
    refine sl_drop (L' := [some (.ref b0), some (.ref a), some (.ref (a + 411)), some (.ref (a + 422)), some (.int (nI (i))), none, none]) (ce_le_s rfl (ce_le_s rfl (ce_le_s rfl (ce_le_s rfl (ce_le_s rfl (ce_le_n (ce_le_n ce_le_e))))))) ?_
    exact cont _ _ _ (iv_2 k3 hD1 hw1 z3 z4 iv2)
set_option maxHeartbeats 2000000 in
set_option maxRecDepth 20000 in
theorem c_4 {G : ce_G} {A : Nat → Prop} {p : Program} {e : Env} {s : State} {m : MethodId} {args : Array Value} {below : List Frame} {meth : Method} {c : Code} {Z : State → Prop} {b0 L0 : Nat} {xs : Nat → Int32} (Cx : ce_CL G A p s m args meth c) (hS : va_X b0 L0 xs s s.heap) (hbl : b0 < s.heap.size) (hbA : ¬ A b0) (hL : L0 ≤ 100000) {a i kc ks : Nat} (hi : i + 5 ≤ L0) (hc : kc ≤ 601000) (hs9 : ks ≤ 7290000) {σ : ce_S} {g : ce_D} {S : ks_S} (iv : sl_iv σ g a S) (cont : ∀ σ' g' S', sl_iv σ' g' a S' → ce_WL G A p e s m args below meth c Z room_1 (kc + 1) (ks + 6) 1931 [some (.ref b0), some (.ref a), some (.ref (a + 411)), some (.ref (a + 422)), some (.int (nI (i))), none, none] [] σ' g') : ce_WL G A p e s m args below meth c Z room_1 kc ks 294 [some (.ref b0), some (.ref a), some (.ref (a + 411)), some (.ref (a + 422)), some (.int (nI (i))), none, none] [] σ g := by
  obtain ⟨⟨b, hX, hr⟩, hD, hw, hm, iv⟩ := iv
  have h14 : sn S ≤ 14 := hr.2.1.1
  obtain ⟨R, V, S2, hR, iv2, hh, hhm⟩ := b_about iv h14 (xs (i + 1))
  refine sl_aload_n Cx dL_law_294 rfl ?_
  refine sl_aload_n Cx dL_law_295 rfl ?_
  refine sl_iload Cx dL_law_296 rfl ?_
  refine sl_iconst Cx (v := nI 1) dL_law_298 (by decide) ?_
  refine sl_iadd Cx (z := nI (i + 1)) dL_law_299 (nI_add _ _) ?_
  refine sl_sld Cx hS hbl hbA hL dL_law_300 (n := (i + 1)) rfl (by omega) ?_
  refine sl_aload_n Cx dL_law_301 rfl ?_
  refine sl_callSW Cx dL_law_302 hL_about kRL_125 (hh σ g a (a + 422) b hX hw hr) rfl rfl (by decide) (Nat.le_of_ble_eq_true rfl) (by show kc + 1 ≤ 601024; omega) (by show ks + 6 ≤ 7293034; omega) (fun v σ1 g1 h1 => ?_)
  obtain ⟨rfl, k1, k2, k3, k4⟩ := h1
  obtain ⟨hD1, hw1, hm1⟩ := iv_1 hD hw hm k1 k4
  refine sl_istore Cx dL_law_305 (Nat.le_of_ble_eq_true rfl) rfl ?_
  refine sl_aload_n Cx dL_law_307 rfl ?_
  refine sl_aload_n Cx dL_law_308 rfl ?_
  refine sl_iload Cx dL_law_309 rfl ?_
  refine sl_iconst Cx (v := nI 1) dL_law_311 (by decide) ?_
  refine sl_iadd Cx (z := nI (i + 1)) dL_law_312 (nI_add _ _) ?_
  refine sl_sld Cx hS hbl hbA hL dL_law_313 (n := (i + 1)) rfl (by omega) ?_
  refine sl_callV Cx dL_law_314 hX8_about kRL_127 (hhm σ1 g1 (a + 411) hD1 hm1) rfl rfl hD1.1 rfl (by decide) (Nat.le_of_ble_eq_true rfl) (by show kc + 1 + 0 ≤ 601024; omega) (by show ks + 6 + 0 ≤ 7293034; omega) (fun v σ2 g2 h2 => ?_)
  obtain ⟨z, rfl, rfl, z1, z2, z3, z4⟩ := h2
  refine sl_istore Cx dL_law_317 (Nat.le_of_ble_eq_true rfl) rfl ?_
  refine sl_aload_n Cx dL_law_319 rfl ?_
  refine sl_callV Cx dL_law_320 hX8_thrown kRL_110 (m_X8_thrown (a + 411) hD1) rfl rfl hD1.1 rfl (by decide) (Nat.le_of_ble_eq_true rfl) (by show kc + 1 + 0 + 0 ≤ 601024; omega) (by show ks + 6 + 0 + 0 ≤ 7293034; omega) (fun v σ3 g3 h3 => ?_)
  obtain ⟨rfl, rfl, rfl⟩ := h3
  refine sl_iload Cx dL_law_323 rfl ?_
  refine sl_icmp_eq Cx (tgt := 330) dL_law_325 (by decide) (fun _ => ?_) (fun q => absurd z2 q)
  refine sl_iload Cx dL_law_330 rfl ?_
  refine sl_if_ne Cx (tgt := 347) dL_law_332 (by decide) (fun _ => ?_) (fun q => ?_)
  · refine sl_goto Cx (tgt := 1931) dL_law_347 (by decide) ?_
    refine sl_drop (L' := [some (.ref b0), some (.ref a), some (.ref (a + 411)), some (.ref (a + 422)), some (.int (nI (i))), none, none]) (ce_le_s rfl (ce_le_s rfl (ce_le_s rfl (ce_le_s rfl (ce_le_s rfl (ce_le_n (ce_le_n ce_le_e))))))) ?_
    exact cont _ _ _ (iv_2 k3 hD1 hw1 z3 z4 iv2)
  · have hR0 : R = 0 := (nI_eq (by omega) (by decide)).mp (q.trans nI_0.symm)
    refine sl_aload_n Cx dL_law_335 rfl ?_
    refine sl_iconst Cx (v := nI 0) dL_law_336 (by decide) ?_
    refine sl_lald Cx (n := 0) (len := 1) dL_law_337 hw1.1 rfl hw1.2 (by decide) (by decide) ?_
    refine sl_iload Cx dL_law_338 rfl ?_
    refine sl_i2l Cx (v := z.toInt64) dL_law_340 rfl ?_
    refine sl_lcmp Cx dL_law_341 rfl ?_
    refine sl_if_eq Cx (tgt := 347) dL_law_342 (by decide) (fun _ => ?_) (fun q2 => absurd (ce_lg_lt.2.1.mpr (by rw [k2 hR0, z1 hR0])) q2)
    refine sl_goto Cx (tgt := 1931) dL_law_347 (by decide) ?_
    refine sl_drop (L' := [some (.ref b0), some (.ref a), some (.ref (a + 411)), some (.ref (a + 422)), some (.int (nI (i))), none, none]) (ce_le_s rfl (ce_le_s rfl (ce_le_s rfl (ce_le_s rfl (ce_le_s rfl (ce_le_n (ce_le_n ce_le_e))))))) ?_
    exact cont _ _ _ (iv_2 k3 hD1 hw1 z3 z4 iv2)
set_option maxHeartbeats 2000000 in
set_option maxRecDepth 20000 in
theorem c_5 {G : ce_G} {A : Nat → Prop} {p : Program} {e : Env} {s : State} {m : MethodId} {args : Array Value} {below : List Frame} {meth : Method} {c : Code} {Z : State → Prop} {b0 L0 : Nat} {xs : Nat → Int32} (Cx : ce_CL G A p s m args meth c) (hS : va_X b0 L0 xs s s.heap) (hbl : b0 < s.heap.size) (hbA : ¬ A b0) (hL : L0 ≤ 100000) {a i kc ks : Nat} (hi : i + 5 ≤ L0) (hc : kc ≤ 601000) (hs9 : ks ≤ 7290000) {σ : ce_S} {g : ce_D} {S : ks_S} (iv : sl_iv σ g a S) (cont : ∀ σ' g' S', sl_iv σ' g' a S' → ce_WL G A p e s m args below meth c Z room_1 (kc + 1) (ks + 6) 1931 [some (.ref b0), some (.ref a), some (.ref (a + 411)), some (.ref (a + 422)), some (.int (nI (i))), none, none] [] σ' g') : ce_WL G A p e s m args below meth c Z room_1 kc ks 350 [some (.ref b0), some (.ref a), some (.ref (a + 411)), some (.ref (a + 422)), some (.int (nI (i))), none, none] [] σ g := by
  obtain ⟨⟨b, hX, hr⟩, hD, hw, hm, iv⟩ := iv
  have h14 : sn S ≤ 14 := hr.2.1.1
  obtain ⟨R, V, S2, hR, iv2, hh, hhm⟩ := b_member iv h14 (xs (i + 1)) (xs (i + 2))
  refine sl_aload_n Cx dL_law_350 rfl ?_
  refine sl_aload_n Cx dL_law_351 rfl ?_
  refine sl_iload Cx dL_law_352 rfl ?_
  refine sl_iconst Cx (v := nI 1) dL_law_354 (by decide) ?_
  refine sl_iadd Cx (z := nI (i + 1)) dL_law_355 (nI_add _ _) ?_
  refine sl_sld Cx hS hbl hbA hL dL_law_356 (n := (i + 1)) rfl (by omega) ?_
  refine sl_aload_n Cx dL_law_357 rfl ?_
  refine sl_iload Cx dL_law_358 rfl ?_
  refine sl_iconst Cx (v := nI 2) dL_law_360 (by decide) ?_
  refine sl_iadd Cx (z := nI (i + 2)) dL_law_361 (nI_add _ _) ?_
  refine sl_sld Cx hS hbl hbA hL dL_law_362 (n := (i + 2)) rfl (by omega) ?_
  refine sl_aload_n Cx dL_law_363 rfl ?_
  refine sl_callSW Cx dL_law_364 hL_member kRL_128 (hh σ g a (a + 422) b hX hw hr) rfl rfl (by decide) (Nat.le_of_ble_eq_true rfl) (by show kc + 1 ≤ 601024; omega) (by show ks + 6 ≤ 7293034; omega) (fun v σ1 g1 h1 => ?_)
  obtain ⟨rfl, k1, k2, k3, k4⟩ := h1
  obtain ⟨hD1, hw1, hm1⟩ := iv_1 hD hw hm k1 k4
  refine sl_istore Cx dL_law_367 (Nat.le_of_ble_eq_true rfl) rfl ?_
  refine sl_aload_n Cx dL_law_369 rfl ?_
  refine sl_aload_n Cx dL_law_370 rfl ?_
  refine sl_iload Cx dL_law_371 rfl ?_
  refine sl_iconst Cx (v := nI 1) dL_law_373 (by decide) ?_
  refine sl_iadd Cx (z := nI (i + 1)) dL_law_374 (nI_add _ _) ?_
  refine sl_sld Cx hS hbl hbA hL dL_law_375 (n := (i + 1)) rfl (by omega) ?_
  refine sl_aload_n Cx dL_law_376 rfl ?_
  refine sl_iload Cx dL_law_377 rfl ?_
  refine sl_iconst Cx (v := nI 2) dL_law_379 (by decide) ?_
  refine sl_iadd Cx (z := nI (i + 2)) dL_law_380 (nI_add _ _) ?_
  refine sl_sld Cx hS hbl hbA hL dL_law_381 (n := (i + 2)) rfl (by omega) ?_
  refine sl_callV Cx dL_law_382 hX8_member kRL_131 (hhm σ1 g1 (a + 411) hD1 hm1) rfl rfl hD1.1 rfl (by decide) (Nat.le_of_ble_eq_true rfl) (by show kc + 1 + 0 ≤ 601024; omega) (by show ks + 6 + 0 ≤ 7293034; omega) (fun v σ2 g2 h2 => ?_)
  obtain ⟨z, rfl, rfl, z1, z2, z3, z4⟩ := h2
  refine sl_istore Cx dL_law_385 (Nat.le_of_ble_eq_true rfl) rfl ?_
  refine sl_aload_n Cx dL_law_387 rfl ?_
  refine sl_callV Cx dL_law_388 hX8_thrown kRL_110 (m_X8_thrown (a + 411) hD1) rfl rfl hD1.1 rfl (by decide) (Nat.le_of_ble_eq_true rfl) (by show kc + 1 + 0 + 0 ≤ 601024; omega) (by show ks + 6 + 0 + 0 ≤ 7293034; omega) (fun v σ3 g3 h3 => ?_)
  obtain ⟨rfl, rfl, rfl⟩ := h3
  refine sl_iload Cx dL_law_391 rfl ?_
  refine sl_icmp_eq Cx (tgt := 398) dL_law_393 (by decide) (fun _ => ?_) (fun q => absurd z2 q)
  refine sl_iload Cx dL_law_398 rfl ?_
  refine sl_if_ne Cx (tgt := 415) dL_law_400 (by decide) (fun _ => ?_) (fun q => ?_)
  · refine sl_goto Cx (tgt := 1931) dL_law_415 (by decide) ?_
    refine sl_drop (L' := [some (.ref b0), some (.ref a), some (.ref (a + 411)), some (.ref (a + 422)), some (.int (nI (i))), none, none]) (ce_le_s rfl (ce_le_s rfl (ce_le_s rfl (ce_le_s rfl (ce_le_s rfl (ce_le_n (ce_le_n ce_le_e))))))) ?_
    exact cont _ _ _ (iv_2 k3 hD1 hw1 z3 z4 iv2)
  · have hR0 : R = 0 := (nI_eq (by omega) (by decide)).mp (q.trans nI_0.symm)
    refine sl_aload_n Cx dL_law_403 rfl ?_
    refine sl_iconst Cx (v := nI 0) dL_law_404 (by decide) ?_
    refine sl_lald Cx (n := 0) (len := 1) dL_law_405 hw1.1 rfl hw1.2 (by decide) (by decide) ?_
    refine sl_iload Cx dL_law_406 rfl ?_
    refine sl_i2l Cx (v := z.toInt64) dL_law_408 rfl ?_
    refine sl_lcmp Cx dL_law_409 rfl ?_
    refine sl_if_eq Cx (tgt := 415) dL_law_410 (by decide) (fun _ => ?_) (fun q2 => absurd (ce_lg_lt.2.1.mpr (by rw [k2 hR0, z1 hR0])) q2)
    refine sl_goto Cx (tgt := 1931) dL_law_415 (by decide) ?_
    refine sl_drop (L' := [some (.ref b0), some (.ref a), some (.ref (a + 411)), some (.ref (a + 422)), some (.int (nI (i))), none, none]) (ce_le_s rfl (ce_le_s rfl (ce_le_s rfl (ce_le_s rfl (ce_le_s rfl (ce_le_n (ce_le_n ce_le_e))))))) ?_
    exact cont _ _ _ (iv_2 k3 hD1 hw1 z3 z4 iv2)
set_option maxHeartbeats 2000000 in
set_option maxRecDepth 20000 in
theorem c_6 {G : ce_G} {A : Nat → Prop} {p : Program} {e : Env} {s : State} {m : MethodId} {args : Array Value} {below : List Frame} {meth : Method} {c : Code} {Z : State → Prop} {b0 L0 : Nat} {xs : Nat → Int32} (Cx : ce_CL G A p s m args meth c) (hS : va_X b0 L0 xs s s.heap) (hbl : b0 < s.heap.size) (hbA : ¬ A b0) (hL : L0 ≤ 100000) {a i kc ks : Nat} (hi : i + 5 ≤ L0) (hc : kc ≤ 601000) (hs9 : ks ≤ 7290000) {σ : ce_S} {g : ce_D} {S : ks_S} (iv : sl_iv σ g a S) (cont : ∀ σ' g' S', sl_iv σ' g' a S' → ce_WL G A p e s m args below meth c Z room_1 (kc + 1) (ks + 6) 1931 [some (.ref b0), some (.ref a), some (.ref (a + 411)), some (.ref (a + 422)), some (.int (nI (i))), none, none] [] σ' g') : ce_WL G A p e s m args below meth c Z room_1 kc ks 418 [some (.ref b0), some (.ref a), some (.ref (a + 411)), some (.ref (a + 422)), some (.int (nI (i))), none, none] [] σ g := by
  obtain ⟨⟨b, hX, hr⟩, hD, hw, hm, iv⟩ := iv
  have h14 : sn S ≤ 14 := hr.2.1.1
  obtain ⟨R, V, S2, hR, iv2, hh, hhm⟩ := b_wine iv h14 (xs (i + 1)) (xs (i + 2))
  refine sl_aload_n Cx dL_law_418 rfl ?_
  refine sl_aload_n Cx dL_law_419 rfl ?_
  refine sl_iload Cx dL_law_420 rfl ?_
  refine sl_iconst Cx (v := nI 1) dL_law_422 (by decide) ?_
  refine sl_iadd Cx (z := nI (i + 1)) dL_law_423 (nI_add _ _) ?_
  refine sl_sld Cx hS hbl hbA hL dL_law_424 (n := (i + 1)) rfl (by omega) ?_
  refine sl_aload_n Cx dL_law_425 rfl ?_
  refine sl_iload Cx dL_law_426 rfl ?_
  refine sl_iconst Cx (v := nI 2) dL_law_428 (by decide) ?_
  refine sl_iadd Cx (z := nI (i + 2)) dL_law_429 (nI_add _ _) ?_
  refine sl_sld Cx hS hbl hbA hL dL_law_430 (n := (i + 2)) rfl (by omega) ?_
  refine sl_aload_n Cx dL_law_431 rfl ?_
  refine sl_callSW Cx dL_law_432 hL_wine kRL_132 (hh σ g a (a + 422) b hX hw hr) rfl rfl (by decide) (Nat.le_of_ble_eq_true rfl) (by show kc + 1 ≤ 601024; omega) (by show ks + 6 ≤ 7293034; omega) (fun v σ1 g1 h1 => ?_)
  obtain ⟨rfl, k1, k2, k3, k4⟩ := h1
  obtain ⟨hD1, hw1, hm1⟩ := iv_1 hD hw hm k1 k4
  refine sl_istore Cx dL_law_435 (Nat.le_of_ble_eq_true rfl) rfl ?_
  refine sl_aload_n Cx dL_law_437 rfl ?_
  refine sl_aload_n Cx dL_law_438 rfl ?_
  refine sl_iload Cx dL_law_439 rfl ?_
  refine sl_iconst Cx (v := nI 1) dL_law_441 (by decide) ?_
  refine sl_iadd Cx (z := nI (i + 1)) dL_law_442 (nI_add _ _) ?_
  refine sl_sld Cx hS hbl hbA hL dL_law_443 (n := (i + 1)) rfl (by omega) ?_
  refine sl_aload_n Cx dL_law_444 rfl ?_
  refine sl_iload Cx dL_law_445 rfl ?_
  refine sl_iconst Cx (v := nI 2) dL_law_447 (by decide) ?_
  refine sl_iadd Cx (z := nI (i + 2)) dL_law_448 (nI_add _ _) ?_
  refine sl_sld Cx hS hbl hbA hL dL_law_449 (n := (i + 2)) rfl (by omega) ?_
  refine sl_callV Cx dL_law_450 hX8_wine kRL_134 (hhm σ1 g1 (a + 411) hD1 hm1) rfl rfl hD1.1 rfl (by decide) (Nat.le_of_ble_eq_true rfl) (by show kc + 1 + 0 ≤ 601024; omega) (by show ks + 6 + 0 ≤ 7293034; omega) (fun v σ2 g2 h2 => ?_)
  obtain ⟨z, rfl, rfl, z1, z2, z3, z4⟩ := h2
  refine sl_istore Cx dL_law_453 (Nat.le_of_ble_eq_true rfl) rfl ?_
  refine sl_aload_n Cx dL_law_455 rfl ?_
  refine sl_callV Cx dL_law_456 hX8_thrown kRL_110 (m_X8_thrown (a + 411) hD1) rfl rfl hD1.1 rfl (by decide) (Nat.le_of_ble_eq_true rfl) (by show kc + 1 + 0 + 0 ≤ 601024; omega) (by show ks + 6 + 0 + 0 ≤ 7293034; omega) (fun v σ3 g3 h3 => ?_)
  obtain ⟨rfl, rfl, rfl⟩ := h3
  refine sl_iload Cx dL_law_459 rfl ?_
  refine sl_icmp_eq Cx (tgt := 466) dL_law_461 (by decide) (fun _ => ?_) (fun q => absurd z2 q)
  refine sl_iload Cx dL_law_466 rfl ?_
  refine sl_if_ne Cx (tgt := 483) dL_law_468 (by decide) (fun _ => ?_) (fun q => ?_)
  · refine sl_goto Cx (tgt := 1931) dL_law_483 (by decide) ?_
    refine sl_drop (L' := [some (.ref b0), some (.ref a), some (.ref (a + 411)), some (.ref (a + 422)), some (.int (nI (i))), none, none]) (ce_le_s rfl (ce_le_s rfl (ce_le_s rfl (ce_le_s rfl (ce_le_s rfl (ce_le_n (ce_le_n ce_le_e))))))) ?_
    exact cont _ _ _ (iv_2 k3 hD1 hw1 z3 z4 iv2)
  · have hR0 : R = 0 := (nI_eq (by omega) (by decide)).mp (q.trans nI_0.symm)
    refine sl_aload_n Cx dL_law_471 rfl ?_
    refine sl_iconst Cx (v := nI 0) dL_law_472 (by decide) ?_
    refine sl_lald Cx (n := 0) (len := 1) dL_law_473 hw1.1 rfl hw1.2 (by decide) (by decide) ?_
    refine sl_iload Cx dL_law_474 rfl ?_
    refine sl_i2l Cx (v := z.toInt64) dL_law_476 rfl ?_
    refine sl_lcmp Cx dL_law_477 rfl ?_
    refine sl_if_eq Cx (tgt := 483) dL_law_478 (by decide) (fun _ => ?_) (fun q2 => absurd (ce_lg_lt.2.1.mpr (by rw [k2 hR0, z1 hR0])) q2)
    refine sl_goto Cx (tgt := 1931) dL_law_483 (by decide) ?_
    refine sl_drop (L' := [some (.ref b0), some (.ref a), some (.ref (a + 411)), some (.ref (a + 422)), some (.int (nI (i))), none, none]) (ce_le_s rfl (ce_le_s rfl (ce_le_s rfl (ce_le_s rfl (ce_le_s rfl (ce_le_n (ce_le_n ce_le_e))))))) ?_
    exact cont _ _ _ (iv_2 k3 hD1 hw1 z3 z4 iv2)
set_option maxHeartbeats 2000000 in
set_option maxRecDepth 20000 in
theorem c_7 {G : ce_G} {A : Nat → Prop} {p : Program} {e : Env} {s : State} {m : MethodId} {args : Array Value} {below : List Frame} {meth : Method} {c : Code} {Z : State → Prop} {b0 L0 : Nat} {xs : Nat → Int32} (Cx : ce_CL G A p s m args meth c) (hS : va_X b0 L0 xs s s.heap) (hbl : b0 < s.heap.size) (hbA : ¬ A b0) (hL : L0 ≤ 100000) {a i kc ks : Nat} (hi : i + 5 ≤ L0) (hc : kc ≤ 601000) (hs9 : ks ≤ 7290000) {σ : ce_S} {g : ce_D} {S : ks_S} (iv : sl_iv σ g a S) (cont : ∀ σ' g' S', sl_iv σ' g' a S' → ce_WL G A p e s m args below meth c Z room_1 (kc + 1) (ks + 6) 1931 [some (.ref b0), some (.ref a), some (.ref (a + 411)), some (.ref (a + 422)), some (.int (nI (i))), none, none] [] σ' g') : ce_WL G A p e s m args below meth c Z room_1 kc ks 486 [some (.ref b0), some (.ref a), some (.ref (a + 411)), some (.ref (a + 422)), some (.int (nI (i))), none, none] [] σ g := by
  obtain ⟨⟨b, hX, hr⟩, hD, hw, hm, iv⟩ := iv
  have h14 : sn S ≤ 14 := hr.2.1.1
  obtain ⟨R, V, S2, hR, iv2, hh, hhm⟩ := b_bin iv h14 (xs (i + 1)) (xs (i + 2))
  refine sl_aload_n Cx dL_law_486 rfl ?_
  refine sl_aload_n Cx dL_law_487 rfl ?_
  refine sl_iload Cx dL_law_488 rfl ?_
  refine sl_iconst Cx (v := nI 1) dL_law_490 (by decide) ?_
  refine sl_iadd Cx (z := nI (i + 1)) dL_law_491 (nI_add _ _) ?_
  refine sl_sld Cx hS hbl hbA hL dL_law_492 (n := (i + 1)) rfl (by omega) ?_
  refine sl_aload_n Cx dL_law_493 rfl ?_
  refine sl_iload Cx dL_law_494 rfl ?_
  refine sl_iconst Cx (v := nI 2) dL_law_496 (by decide) ?_
  refine sl_iadd Cx (z := nI (i + 2)) dL_law_497 (nI_add _ _) ?_
  refine sl_sld Cx hS hbl hbA hL dL_law_498 (n := (i + 2)) rfl (by omega) ?_
  refine sl_aload_n Cx dL_law_499 rfl ?_
  refine sl_callSW Cx dL_law_500 hL_bin kRL_135 (hh σ g a (a + 422) b hX hw hr) rfl rfl (by decide) (Nat.le_of_ble_eq_true rfl) (by show kc + 1 ≤ 601024; omega) (by show ks + 6 ≤ 7293034; omega) (fun v σ1 g1 h1 => ?_)
  obtain ⟨rfl, k1, k2, k3, k4⟩ := h1
  obtain ⟨hD1, hw1, hm1⟩ := iv_1 hD hw hm k1 k4
  refine sl_istore Cx dL_law_503 (Nat.le_of_ble_eq_true rfl) rfl ?_
  refine sl_aload_n Cx dL_law_505 rfl ?_
  refine sl_aload_n Cx dL_law_506 rfl ?_
  refine sl_iload Cx dL_law_507 rfl ?_
  refine sl_iconst Cx (v := nI 1) dL_law_509 (by decide) ?_
  refine sl_iadd Cx (z := nI (i + 1)) dL_law_510 (nI_add _ _) ?_
  refine sl_sld Cx hS hbl hbA hL dL_law_511 (n := (i + 1)) rfl (by omega) ?_
  refine sl_aload_n Cx dL_law_512 rfl ?_
  refine sl_iload Cx dL_law_513 rfl ?_
  refine sl_iconst Cx (v := nI 2) dL_law_515 (by decide) ?_
  refine sl_iadd Cx (z := nI (i + 2)) dL_law_516 (nI_add _ _) ?_
  refine sl_sld Cx hS hbl hbA hL dL_law_517 (n := (i + 2)) rfl (by omega) ?_
  refine sl_callV Cx dL_law_518 hX8_bin kRL_137 (hhm σ1 g1 (a + 411) hD1 hm1) rfl rfl hD1.1 rfl (by decide) (Nat.le_of_ble_eq_true rfl) (by show kc + 1 + 0 ≤ 601024; omega) (by show ks + 6 + 0 ≤ 7293034; omega) (fun v σ2 g2 h2 => ?_)
  obtain ⟨z, rfl, rfl, z1, z2, z3, z4⟩ := h2
  refine sl_istore Cx dL_law_521 (Nat.le_of_ble_eq_true rfl) rfl ?_
  refine sl_aload_n Cx dL_law_523 rfl ?_
  refine sl_callV Cx dL_law_524 hX8_thrown kRL_110 (m_X8_thrown (a + 411) hD1) rfl rfl hD1.1 rfl (by decide) (Nat.le_of_ble_eq_true rfl) (by show kc + 1 + 0 + 0 ≤ 601024; omega) (by show ks + 6 + 0 + 0 ≤ 7293034; omega) (fun v σ3 g3 h3 => ?_)
  obtain ⟨rfl, rfl, rfl⟩ := h3
  refine sl_iload Cx dL_law_527 rfl ?_
  refine sl_icmp_eq Cx (tgt := 534) dL_law_529 (by decide) (fun _ => ?_) (fun q => absurd z2 q)
  refine sl_iload Cx dL_law_534 rfl ?_
  refine sl_if_ne Cx (tgt := 551) dL_law_536 (by decide) (fun _ => ?_) (fun q => ?_)
  · refine sl_goto Cx (tgt := 1931) dL_law_551 (by decide) ?_
    refine sl_drop (L' := [some (.ref b0), some (.ref a), some (.ref (a + 411)), some (.ref (a + 422)), some (.int (nI (i))), none, none]) (ce_le_s rfl (ce_le_s rfl (ce_le_s rfl (ce_le_s rfl (ce_le_s rfl (ce_le_n (ce_le_n ce_le_e))))))) ?_
    exact cont _ _ _ (iv_2 k3 hD1 hw1 z3 z4 iv2)
  · have hR0 : R = 0 := (nI_eq (by omega) (by decide)).mp (q.trans nI_0.symm)
    refine sl_aload_n Cx dL_law_539 rfl ?_
    refine sl_iconst Cx (v := nI 0) dL_law_540 (by decide) ?_
    refine sl_lald Cx (n := 0) (len := 1) dL_law_541 hw1.1 rfl hw1.2 (by decide) (by decide) ?_
    refine sl_iload Cx dL_law_542 rfl ?_
    refine sl_i2l Cx (v := z.toInt64) dL_law_544 rfl ?_
    refine sl_lcmp Cx dL_law_545 rfl ?_
    refine sl_if_eq Cx (tgt := 551) dL_law_546 (by decide) (fun _ => ?_) (fun q2 => absurd (ce_lg_lt.2.1.mpr (by rw [k2 hR0, z1 hR0])) q2)
    refine sl_goto Cx (tgt := 1931) dL_law_551 (by decide) ?_
    refine sl_drop (L' := [some (.ref b0), some (.ref a), some (.ref (a + 411)), some (.ref (a + 422)), some (.int (nI (i))), none, none]) (ce_le_s rfl (ce_le_s rfl (ce_le_s rfl (ce_le_s rfl (ce_le_s rfl (ce_le_n (ce_le_n ce_le_e))))))) ?_
    exact cont _ _ _ (iv_2 k3 hD1 hw1 z3 z4 iv2)
set_option maxHeartbeats 2000000 in
set_option maxRecDepth 20000 in
theorem c_8 {G : ce_G} {A : Nat → Prop} {p : Program} {e : Env} {s : State} {m : MethodId} {args : Array Value} {below : List Frame} {meth : Method} {c : Code} {Z : State → Prop} {b0 L0 : Nat} {xs : Nat → Int32} (Cx : ce_CL G A p s m args meth c) (hS : va_X b0 L0 xs s s.heap) (hbl : b0 < s.heap.size) (hbA : ¬ A b0) (hL : L0 ≤ 100000) {a i kc ks : Nat} (hi : i + 5 ≤ L0) (hc : kc ≤ 601000) (hs9 : ks ≤ 7290000) {σ : ce_S} {g : ce_D} {S : ks_S} (iv : sl_iv σ g a S) (cont : ∀ σ' g' S', sl_iv σ' g' a S' → ce_WL G A p e s m args below meth c Z room_1 (kc + 1) (ks + 6) 1931 [some (.ref b0), some (.ref a), some (.ref (a + 411)), some (.ref (a + 422)), some (.int (nI (i))), none, none] [] σ' g') : ce_WL G A p e s m args below meth c Z room_1 kc ks 554 [some (.ref b0), some (.ref a), some (.ref (a + 411)), some (.ref (a + 422)), some (.int (nI (i))), none, none] [] σ g := by
  obtain ⟨⟨b, hX, hr⟩, hD, hw, hm, iv⟩ := iv
  have h14 : sn S ≤ 14 := hr.2.1.1
  obtain ⟨R, V, S2, hR, iv2, hh, hhm⟩ := b_has iv h14 (xs (i + 1)) (xs (i + 2)) (xs (i + 3))
  refine sl_aload_n Cx dL_law_554 rfl ?_
  refine sl_aload_n Cx dL_law_555 rfl ?_
  refine sl_iload Cx dL_law_556 rfl ?_
  refine sl_iconst Cx (v := nI 1) dL_law_558 (by decide) ?_
  refine sl_iadd Cx (z := nI (i + 1)) dL_law_559 (nI_add _ _) ?_
  refine sl_sld Cx hS hbl hbA hL dL_law_560 (n := (i + 1)) rfl (by omega) ?_
  refine sl_aload_n Cx dL_law_561 rfl ?_
  refine sl_iload Cx dL_law_562 rfl ?_
  refine sl_iconst Cx (v := nI 2) dL_law_564 (by decide) ?_
  refine sl_iadd Cx (z := nI (i + 2)) dL_law_565 (nI_add _ _) ?_
  refine sl_sld Cx hS hbl hbA hL dL_law_566 (n := (i + 2)) rfl (by omega) ?_
  refine sl_aload_n Cx dL_law_567 rfl ?_
  refine sl_iload Cx dL_law_568 rfl ?_
  refine sl_iconst Cx (v := nI 3) dL_law_570 (by decide) ?_
  refine sl_iadd Cx (z := nI (i + 3)) dL_law_571 (nI_add _ _) ?_
  refine sl_sld Cx hS hbl hbA hL dL_law_572 (n := (i + 3)) rfl (by omega) ?_
  refine sl_aload_n Cx dL_law_573 rfl ?_
  refine sl_callSW Cx dL_law_574 hL_has kRL_138 (hh σ g a (a + 422) b hX hw hr) rfl rfl (by decide) (Nat.le_of_ble_eq_true rfl) (by show kc + 1 ≤ 601024; omega) (by show ks + 6 ≤ 7293034; omega) (fun v σ1 g1 h1 => ?_)
  obtain ⟨rfl, k1, k2, k3, k4⟩ := h1
  obtain ⟨hD1, hw1, hm1⟩ := iv_1 hD hw hm k1 k4
  refine sl_istore Cx dL_law_577 (Nat.le_of_ble_eq_true rfl) rfl ?_
  refine sl_aload_n Cx dL_law_579 rfl ?_
  refine sl_aload_n Cx dL_law_580 rfl ?_
  refine sl_iload Cx dL_law_581 rfl ?_
  refine sl_iconst Cx (v := nI 1) dL_law_583 (by decide) ?_
  refine sl_iadd Cx (z := nI (i + 1)) dL_law_584 (nI_add _ _) ?_
  refine sl_sld Cx hS hbl hbA hL dL_law_585 (n := (i + 1)) rfl (by omega) ?_
  refine sl_aload_n Cx dL_law_586 rfl ?_
  refine sl_iload Cx dL_law_587 rfl ?_
  refine sl_iconst Cx (v := nI 2) dL_law_589 (by decide) ?_
  refine sl_iadd Cx (z := nI (i + 2)) dL_law_590 (nI_add _ _) ?_
  refine sl_sld Cx hS hbl hbA hL dL_law_591 (n := (i + 2)) rfl (by omega) ?_
  refine sl_aload_n Cx dL_law_592 rfl ?_
  refine sl_iload Cx dL_law_593 rfl ?_
  refine sl_iconst Cx (v := nI 3) dL_law_595 (by decide) ?_
  refine sl_iadd Cx (z := nI (i + 3)) dL_law_596 (nI_add _ _) ?_
  refine sl_sld Cx hS hbl hbA hL dL_law_597 (n := (i + 3)) rfl (by omega) ?_
  refine sl_callV Cx dL_law_598 hX8_has kRL_141 (hhm σ1 g1 (a + 411) hD1 hm1) rfl rfl hD1.1 rfl (by decide) (Nat.le_of_ble_eq_true rfl) (by show kc + 1 + 0 ≤ 601024; omega) (by show ks + 6 + 0 ≤ 7293034; omega) (fun v σ2 g2 h2 => ?_)
  obtain ⟨z, rfl, rfl, z1, z2, z3, z4⟩ := h2
  refine sl_istore Cx dL_law_601 (Nat.le_of_ble_eq_true rfl) rfl ?_
  refine sl_aload_n Cx dL_law_603 rfl ?_
  refine sl_callV Cx dL_law_604 hX8_thrown kRL_110 (m_X8_thrown (a + 411) hD1) rfl rfl hD1.1 rfl (by decide) (Nat.le_of_ble_eq_true rfl) (by show kc + 1 + 0 + 0 ≤ 601024; omega) (by show ks + 6 + 0 + 0 ≤ 7293034; omega) (fun v σ3 g3 h3 => ?_)
  obtain ⟨rfl, rfl, rfl⟩ := h3
  refine sl_iload Cx dL_law_607 rfl ?_
  refine sl_icmp_eq Cx (tgt := 614) dL_law_609 (by decide) (fun _ => ?_) (fun q => absurd z2 q)
  refine sl_iload Cx dL_law_614 rfl ?_
  refine sl_if_ne Cx (tgt := 631) dL_law_616 (by decide) (fun _ => ?_) (fun q => ?_)
  · refine sl_goto Cx (tgt := 1931) dL_law_631 (by decide) ?_
    refine sl_drop (L' := [some (.ref b0), some (.ref a), some (.ref (a + 411)), some (.ref (a + 422)), some (.int (nI (i))), none, none]) (ce_le_s rfl (ce_le_s rfl (ce_le_s rfl (ce_le_s rfl (ce_le_s rfl (ce_le_n (ce_le_n ce_le_e))))))) ?_
    exact cont _ _ _ (iv_2 k3 hD1 hw1 z3 z4 iv2)
  · have hR0 : R = 0 := (nI_eq (by omega) (by decide)).mp (q.trans nI_0.symm)
    refine sl_aload_n Cx dL_law_619 rfl ?_
    refine sl_iconst Cx (v := nI 0) dL_law_620 (by decide) ?_
    refine sl_lald Cx (n := 0) (len := 1) dL_law_621 hw1.1 rfl hw1.2 (by decide) (by decide) ?_
    refine sl_iload Cx dL_law_622 rfl ?_
    refine sl_i2l Cx (v := z.toInt64) dL_law_624 rfl ?_
    refine sl_lcmp Cx dL_law_625 rfl ?_
    refine sl_if_eq Cx (tgt := 631) dL_law_626 (by decide) (fun _ => ?_) (fun q2 => absurd (ce_lg_lt.2.1.mpr (by rw [k2 hR0, z1 hR0])) q2)
    refine sl_goto Cx (tgt := 1931) dL_law_631 (by decide) ?_
    refine sl_drop (L' := [some (.ref b0), some (.ref a), some (.ref (a + 411)), some (.ref (a + 422)), some (.int (nI (i))), none, none]) (ce_le_s rfl (ce_le_s rfl (ce_le_s rfl (ce_le_s rfl (ce_le_s rfl (ce_le_n (ce_le_n ce_le_e))))))) ?_
    exact cont _ _ _ (iv_2 k3 hD1 hw1 z3 z4 iv2)
set_option maxHeartbeats 2000000 in
set_option maxRecDepth 20000 in
theorem c_9 {G : ce_G} {A : Nat → Prop} {p : Program} {e : Env} {s : State} {m : MethodId} {args : Array Value} {below : List Frame} {meth : Method} {c : Code} {Z : State → Prop} {b0 L0 : Nat} {xs : Nat → Int32} (Cx : ce_CL G A p s m args meth c) (hS : va_X b0 L0 xs s s.heap) (hbl : b0 < s.heap.size) (hbA : ¬ A b0) (hL : L0 ≤ 100000) {a i kc ks : Nat} (hi : i + 5 ≤ L0) (hc : kc ≤ 601000) (hs9 : ks ≤ 7290000) {σ : ce_S} {g : ce_D} {S : ks_S} (iv : sl_iv σ g a S) (cont : ∀ σ' g' S', sl_iv σ' g' a S' → ce_WL G A p e s m args below meth c Z room_1 (kc + 1) (ks + 6) 1931 [some (.ref b0), some (.ref a), some (.ref (a + 411)), some (.ref (a + 422)), some (.int (nI (i))), none, none] [] σ' g') : ce_WL G A p e s m args below meth c Z room_1 kc ks 634 [some (.ref b0), some (.ref a), some (.ref (a + 411)), some (.ref (a + 422)), some (.int (nI (i))), none, none] [] σ g := by
  obtain ⟨⟨b, hX, hr⟩, hD, hw, hm, iv⟩ := iv
  have h14 : sn S ≤ 14 := hr.2.1.1
  obtain ⟨R, V, S2, hR, iv2, hh, hhm⟩ := b_addMember iv h14 (xs (i + 1))
  refine sl_aload_n Cx dL_law_634 rfl ?_
  refine sl_aload_n Cx dL_law_635 rfl ?_
  refine sl_iload Cx dL_law_636 rfl ?_
  refine sl_iconst Cx (v := nI 1) dL_law_638 (by decide) ?_
  refine sl_iadd Cx (z := nI (i + 1)) dL_law_639 (nI_add _ _) ?_
  refine sl_sld Cx hS hbl hbA hL dL_law_640 (n := (i + 1)) rfl (by omega) ?_
  refine sl_aload_n Cx dL_law_641 rfl ?_
  refine sl_callSW Cx dL_law_642 hL_addMember kRL_142 (hh σ g a (a + 422) b hX hw hr) rfl rfl (by decide) (Nat.le_of_ble_eq_true rfl) (by show kc + 1 ≤ 601024; omega) (by show ks + 6 ≤ 7293034; omega) (fun v σ1 g1 h1 => ?_)
  obtain ⟨rfl, k1, k2, k3, k4⟩ := h1
  obtain ⟨hD1, hw1, hm1⟩ := iv_1 hD hw hm k1 k4
  refine sl_istore Cx dL_law_645 (Nat.le_of_ble_eq_true rfl) rfl ?_
  refine sl_aload_n Cx dL_law_647 rfl ?_
  refine sl_aload_n Cx dL_law_648 rfl ?_
  refine sl_iload Cx dL_law_649 rfl ?_
  refine sl_iconst Cx (v := nI 1) dL_law_651 (by decide) ?_
  refine sl_iadd Cx (z := nI (i + 1)) dL_law_652 (nI_add _ _) ?_
  refine sl_sld Cx hS hbl hbA hL dL_law_653 (n := (i + 1)) rfl (by omega) ?_
  refine sl_callV Cx dL_law_654 hX8_addMember kRL_144 (hhm σ1 g1 (a + 411) hD1 hm1) rfl rfl hD1.1 rfl (by decide) (Nat.le_of_ble_eq_true rfl) (by show kc + 1 + 0 ≤ 601024; omega) (by show ks + 6 + 0 ≤ 7293034; omega) (fun v σ2 g2 h2 => ?_)
  obtain ⟨z, rfl, rfl, z1, z2, z3, z4⟩ := h2
  refine sl_istore Cx dL_law_657 (Nat.le_of_ble_eq_true rfl) rfl ?_
  refine sl_aload_n Cx dL_law_659 rfl ?_
  refine sl_callV Cx dL_law_660 hX8_thrown kRL_110 (m_X8_thrown (a + 411) hD1) rfl rfl hD1.1 rfl (by decide) (Nat.le_of_ble_eq_true rfl) (by show kc + 1 + 0 + 0 ≤ 601024; omega) (by show ks + 6 + 0 + 0 ≤ 7293034; omega) (fun v σ3 g3 h3 => ?_)
  obtain ⟨rfl, rfl, rfl⟩ := h3
  refine sl_iload Cx dL_law_663 rfl ?_
  refine sl_icmp_eq Cx (tgt := 670) dL_law_665 (by decide) (fun _ => ?_) (fun q => absurd z2 q)
  refine sl_iload Cx dL_law_670 rfl ?_
  refine sl_if_ne Cx (tgt := 687) dL_law_672 (by decide) (fun _ => ?_) (fun q => ?_)
  · refine sl_goto Cx (tgt := 1931) dL_law_687 (by decide) ?_
    refine sl_drop (L' := [some (.ref b0), some (.ref a), some (.ref (a + 411)), some (.ref (a + 422)), some (.int (nI (i))), none, none]) (ce_le_s rfl (ce_le_s rfl (ce_le_s rfl (ce_le_s rfl (ce_le_s rfl (ce_le_n (ce_le_n ce_le_e))))))) ?_
    exact cont _ _ _ (iv_2 k3 hD1 hw1 z3 z4 iv2)
  · have hR0 : R = 0 := (nI_eq (by omega) (by decide)).mp (q.trans nI_0.symm)
    refine sl_aload_n Cx dL_law_675 rfl ?_
    refine sl_iconst Cx (v := nI 0) dL_law_676 (by decide) ?_
    refine sl_lald Cx (n := 0) (len := 1) dL_law_677 hw1.1 rfl hw1.2 (by decide) (by decide) ?_
    refine sl_iload Cx dL_law_678 rfl ?_
    refine sl_i2l Cx (v := z.toInt64) dL_law_680 rfl ?_
    refine sl_lcmp Cx dL_law_681 rfl ?_
    refine sl_if_eq Cx (tgt := 687) dL_law_682 (by decide) (fun _ => ?_) (fun q2 => absurd (ce_lg_lt.2.1.mpr (by rw [k2 hR0, z1 hR0])) q2)
    refine sl_goto Cx (tgt := 1931) dL_law_687 (by decide) ?_
    refine sl_drop (L' := [some (.ref b0), some (.ref a), some (.ref (a + 411)), some (.ref (a + 422)), some (.int (nI (i))), none, none]) (ce_le_s rfl (ce_le_s rfl (ce_le_s rfl (ce_le_s rfl (ce_le_s rfl (ce_le_n (ce_le_n ce_le_e))))))) ?_
    exact cont _ _ _ (iv_2 k3 hD1 hw1 z3 z4 iv2)
set_option maxHeartbeats 2000000 in
set_option maxRecDepth 20000 in
theorem c_10 {G : ce_G} {A : Nat → Prop} {p : Program} {e : Env} {s : State} {m : MethodId} {args : Array Value} {below : List Frame} {meth : Method} {c : Code} {Z : State → Prop} {b0 L0 : Nat} {xs : Nat → Int32} (Cx : ce_CL G A p s m args meth c) (hS : va_X b0 L0 xs s s.heap) (hbl : b0 < s.heap.size) (hbA : ¬ A b0) (hL : L0 ≤ 100000) {a i kc ks : Nat} (hi : i + 5 ≤ L0) (hc : kc ≤ 601000) (hs9 : ks ≤ 7290000) {σ : ce_S} {g : ce_D} {S : ks_S} (iv : sl_iv σ g a S) (cont : ∀ σ' g' S', sl_iv σ' g' a S' → ce_WL G A p e s m args below meth c Z room_1 (kc + 1) (ks + 6) 1931 [some (.ref b0), some (.ref a), some (.ref (a + 411)), some (.ref (a + 422)), some (.int (nI (i))), none, none] [] σ' g') : ce_WL G A p e s m args below meth c Z room_1 kc ks 690 [some (.ref b0), some (.ref a), some (.ref (a + 411)), some (.ref (a + 422)), some (.int (nI (i))), none, none] [] σ g := by
  obtain ⟨⟨b, hX, hr⟩, hD, hw, hm, iv⟩ := iv
  have h14 : sn S ≤ 14 := hr.2.1.1
  obtain ⟨R, V, S2, hR, iv2, hh, hhm⟩ := b_addWine iv h14 (xs (i + 1)) (xs (i + 2))
  refine sl_aload_n Cx dL_law_690 rfl ?_
  refine sl_aload_n Cx dL_law_691 rfl ?_
  refine sl_iload Cx dL_law_692 rfl ?_
  refine sl_iconst Cx (v := nI 1) dL_law_694 (by decide) ?_
  refine sl_iadd Cx (z := nI (i + 1)) dL_law_695 (nI_add _ _) ?_
  refine sl_sld Cx hS hbl hbA hL dL_law_696 (n := (i + 1)) rfl (by omega) ?_
  refine sl_aload_n Cx dL_law_697 rfl ?_
  refine sl_iload Cx dL_law_698 rfl ?_
  refine sl_iconst Cx (v := nI 2) dL_law_700 (by decide) ?_
  refine sl_iadd Cx (z := nI (i + 2)) dL_law_701 (nI_add _ _) ?_
  refine sl_sld Cx hS hbl hbA hL dL_law_702 (n := (i + 2)) rfl (by omega) ?_
  refine sl_aload_n Cx dL_law_703 rfl ?_
  refine sl_callSW Cx dL_law_704 hL_addWine kRL_145 (hh σ g a (a + 422) b hX hw hr) rfl rfl (by decide) (Nat.le_of_ble_eq_true rfl) (by show kc + 1 ≤ 601024; omega) (by show ks + 6 ≤ 7293034; omega) (fun v σ1 g1 h1 => ?_)
  obtain ⟨rfl, k1, k2, k3, k4⟩ := h1
  obtain ⟨hD1, hw1, hm1⟩ := iv_1 hD hw hm k1 k4
  refine sl_istore Cx dL_law_707 (Nat.le_of_ble_eq_true rfl) rfl ?_
  refine sl_aload_n Cx dL_law_709 rfl ?_
  refine sl_aload_n Cx dL_law_710 rfl ?_
  refine sl_iload Cx dL_law_711 rfl ?_
  refine sl_iconst Cx (v := nI 1) dL_law_713 (by decide) ?_
  refine sl_iadd Cx (z := nI (i + 1)) dL_law_714 (nI_add _ _) ?_
  refine sl_sld Cx hS hbl hbA hL dL_law_715 (n := (i + 1)) rfl (by omega) ?_
  refine sl_aload_n Cx dL_law_716 rfl ?_
  refine sl_iload Cx dL_law_717 rfl ?_
  refine sl_iconst Cx (v := nI 2) dL_law_719 (by decide) ?_
  refine sl_iadd Cx (z := nI (i + 2)) dL_law_720 (nI_add _ _) ?_
  refine sl_sld Cx hS hbl hbA hL dL_law_721 (n := (i + 2)) rfl (by omega) ?_
  refine sl_callV Cx dL_law_722 hX8_addWine kRL_147 (hhm σ1 g1 (a + 411) hD1 hm1) rfl rfl hD1.1 rfl (by decide) (Nat.le_of_ble_eq_true rfl) (by show kc + 1 + 0 ≤ 601024; omega) (by show ks + 6 + 0 ≤ 7293034; omega) (fun v σ2 g2 h2 => ?_)
  obtain ⟨z, rfl, rfl, z1, z2, z3, z4⟩ := h2
  refine sl_istore Cx dL_law_725 (Nat.le_of_ble_eq_true rfl) rfl ?_
  refine sl_aload_n Cx dL_law_727 rfl ?_
  refine sl_callV Cx dL_law_728 hX8_thrown kRL_110 (m_X8_thrown (a + 411) hD1) rfl rfl hD1.1 rfl (by decide) (Nat.le_of_ble_eq_true rfl) (by show kc + 1 + 0 + 0 ≤ 601024; omega) (by show ks + 6 + 0 + 0 ≤ 7293034; omega) (fun v σ3 g3 h3 => ?_)
  obtain ⟨rfl, rfl, rfl⟩ := h3
  refine sl_iload Cx dL_law_731 rfl ?_
  refine sl_icmp_eq Cx (tgt := 738) dL_law_733 (by decide) (fun _ => ?_) (fun q => absurd z2 q)
  refine sl_iload Cx dL_law_738 rfl ?_
  refine sl_if_ne Cx (tgt := 755) dL_law_740 (by decide) (fun _ => ?_) (fun q => ?_)
  · refine sl_goto Cx (tgt := 1931) dL_law_755 (by decide) ?_
    refine sl_drop (L' := [some (.ref b0), some (.ref a), some (.ref (a + 411)), some (.ref (a + 422)), some (.int (nI (i))), none, none]) (ce_le_s rfl (ce_le_s rfl (ce_le_s rfl (ce_le_s rfl (ce_le_s rfl (ce_le_n (ce_le_n ce_le_e))))))) ?_
    exact cont _ _ _ (iv_2 k3 hD1 hw1 z3 z4 iv2)
  · have hR0 : R = 0 := (nI_eq (by omega) (by decide)).mp (q.trans nI_0.symm)
    refine sl_aload_n Cx dL_law_743 rfl ?_
    refine sl_iconst Cx (v := nI 0) dL_law_744 (by decide) ?_
    refine sl_lald Cx (n := 0) (len := 1) dL_law_745 hw1.1 rfl hw1.2 (by decide) (by decide) ?_
    refine sl_iload Cx dL_law_746 rfl ?_
    refine sl_i2l Cx (v := z.toInt64) dL_law_748 rfl ?_
    refine sl_lcmp Cx dL_law_749 rfl ?_
    refine sl_if_eq Cx (tgt := 755) dL_law_750 (by decide) (fun _ => ?_) (fun q2 => absurd (ce_lg_lt.2.1.mpr (by rw [k2 hR0, z1 hR0])) q2)
    refine sl_goto Cx (tgt := 1931) dL_law_755 (by decide) ?_
    refine sl_drop (L' := [some (.ref b0), some (.ref a), some (.ref (a + 411)), some (.ref (a + 422)), some (.int (nI (i))), none, none]) (ce_le_s rfl (ce_le_s rfl (ce_le_s rfl (ce_le_s rfl (ce_le_s rfl (ce_le_n (ce_le_n ce_le_e))))))) ?_
    exact cont _ _ _ (iv_2 k3 hD1 hw1 z3 z4 iv2)
set_option maxHeartbeats 2000000 in
set_option maxRecDepth 20000 in
theorem c_11 {G : ce_G} {A : Nat → Prop} {p : Program} {e : Env} {s : State} {m : MethodId} {args : Array Value} {below : List Frame} {meth : Method} {c : Code} {Z : State → Prop} {b0 L0 : Nat} {xs : Nat → Int32} (Cx : ce_CL G A p s m args meth c) (hS : va_X b0 L0 xs s s.heap) (hbl : b0 < s.heap.size) (hbA : ¬ A b0) (hL : L0 ≤ 100000) {a i kc ks : Nat} (hi : i + 5 ≤ L0) (hc : kc ≤ 601000) (hs9 : ks ≤ 7290000) {σ : ce_S} {g : ce_D} {S : ks_S} (iv : sl_iv σ g a S) (cont : ∀ σ' g' S', sl_iv σ' g' a S' → ce_WL G A p e s m args below meth c Z room_1 (kc + 1) (ks + 6) 1931 [some (.ref b0), some (.ref a), some (.ref (a + 411)), some (.ref (a + 422)), some (.int (nI (i))), none, none] [] σ' g') : ce_WL G A p e s m args below meth c Z room_1 kc ks 758 [some (.ref b0), some (.ref a), some (.ref (a + 411)), some (.ref (a + 422)), some (.int (nI (i))), none, none] [] σ g := by
  obtain ⟨⟨b, hX, hr⟩, hD, hw, hm, iv⟩ := iv
  have h14 : sn S ≤ 14 := hr.2.1.1
  obtain ⟨R, V, S2, hR, iv2, hh, hhm⟩ := b_addBin iv h14 (xs (i + 1))
  refine sl_aload_n Cx dL_law_758 rfl ?_
  refine sl_aload_n Cx dL_law_759 rfl ?_
  refine sl_iload Cx dL_law_760 rfl ?_
  refine sl_iconst Cx (v := nI 1) dL_law_762 (by decide) ?_
  refine sl_iadd Cx (z := nI (i + 1)) dL_law_763 (nI_add _ _) ?_
  refine sl_sld Cx hS hbl hbA hL dL_law_764 (n := (i + 1)) rfl (by omega) ?_
  refine sl_aload_n Cx dL_law_765 rfl ?_
  refine sl_callSW Cx dL_law_766 hL_addBin kRL_148 (hh σ g a (a + 422) b hX hw hr) rfl rfl (by decide) (Nat.le_of_ble_eq_true rfl) (by show kc + 1 ≤ 601024; omega) (by show ks + 6 ≤ 7293034; omega) (fun v σ1 g1 h1 => ?_)
  obtain ⟨rfl, k1, k2, k3, k4⟩ := h1
  obtain ⟨hD1, hw1, hm1⟩ := iv_1 hD hw hm k1 k4
  refine sl_istore Cx dL_law_769 (Nat.le_of_ble_eq_true rfl) rfl ?_
  refine sl_aload_n Cx dL_law_771 rfl ?_
  refine sl_aload_n Cx dL_law_772 rfl ?_
  refine sl_iload Cx dL_law_773 rfl ?_
  refine sl_iconst Cx (v := nI 1) dL_law_775 (by decide) ?_
  refine sl_iadd Cx (z := nI (i + 1)) dL_law_776 (nI_add _ _) ?_
  refine sl_sld Cx hS hbl hbA hL dL_law_777 (n := (i + 1)) rfl (by omega) ?_
  refine sl_callV Cx dL_law_778 hX8_addBin kRL_150 (hhm σ1 g1 (a + 411) hD1 hm1) rfl rfl hD1.1 rfl (by decide) (Nat.le_of_ble_eq_true rfl) (by show kc + 1 + 0 ≤ 601024; omega) (by show ks + 6 + 0 ≤ 7293034; omega) (fun v σ2 g2 h2 => ?_)
  obtain ⟨z, rfl, rfl, z1, z2, z3, z4⟩ := h2
  refine sl_istore Cx dL_law_781 (Nat.le_of_ble_eq_true rfl) rfl ?_
  refine sl_aload_n Cx dL_law_783 rfl ?_
  refine sl_callV Cx dL_law_784 hX8_thrown kRL_110 (m_X8_thrown (a + 411) hD1) rfl rfl hD1.1 rfl (by decide) (Nat.le_of_ble_eq_true rfl) (by show kc + 1 + 0 + 0 ≤ 601024; omega) (by show ks + 6 + 0 + 0 ≤ 7293034; omega) (fun v σ3 g3 h3 => ?_)
  obtain ⟨rfl, rfl, rfl⟩ := h3
  refine sl_iload Cx dL_law_787 rfl ?_
  refine sl_icmp_eq Cx (tgt := 794) dL_law_789 (by decide) (fun _ => ?_) (fun q => absurd z2 q)
  refine sl_iload Cx dL_law_794 rfl ?_
  refine sl_if_ne Cx (tgt := 811) dL_law_796 (by decide) (fun _ => ?_) (fun q => ?_)
  · refine sl_goto Cx (tgt := 1931) dL_law_811 (by decide) ?_
    refine sl_drop (L' := [some (.ref b0), some (.ref a), some (.ref (a + 411)), some (.ref (a + 422)), some (.int (nI (i))), none, none]) (ce_le_s rfl (ce_le_s rfl (ce_le_s rfl (ce_le_s rfl (ce_le_s rfl (ce_le_n (ce_le_n ce_le_e))))))) ?_
    exact cont _ _ _ (iv_2 k3 hD1 hw1 z3 z4 iv2)
  · have hR0 : R = 0 := (nI_eq (by omega) (by decide)).mp (q.trans nI_0.symm)
    refine sl_aload_n Cx dL_law_799 rfl ?_
    refine sl_iconst Cx (v := nI 0) dL_law_800 (by decide) ?_
    refine sl_lald Cx (n := 0) (len := 1) dL_law_801 hw1.1 rfl hw1.2 (by decide) (by decide) ?_
    refine sl_iload Cx dL_law_802 rfl ?_
    refine sl_i2l Cx (v := z.toInt64) dL_law_804 rfl ?_
    refine sl_lcmp Cx dL_law_805 rfl ?_
    refine sl_if_eq Cx (tgt := 811) dL_law_806 (by decide) (fun _ => ?_) (fun q2 => absurd (ce_lg_lt.2.1.mpr (by rw [k2 hR0, z1 hR0])) q2)
    refine sl_goto Cx (tgt := 1931) dL_law_811 (by decide) ?_
    refine sl_drop (L' := [some (.ref b0), some (.ref a), some (.ref (a + 411)), some (.ref (a + 422)), some (.int (nI (i))), none, none]) (ce_le_s rfl (ce_le_s rfl (ce_le_s rfl (ce_le_s rfl (ce_le_s rfl (ce_le_n (ce_le_n ce_le_e))))))) ?_
    exact cont _ _ _ (iv_2 k3 hD1 hw1 z3 z4 iv2)
set_option maxHeartbeats 2000000 in
set_option maxRecDepth 20000 in
theorem c_12 {G : ce_G} {A : Nat → Prop} {p : Program} {e : Env} {s : State} {m : MethodId} {args : Array Value} {below : List Frame} {meth : Method} {c : Code} {Z : State → Prop} {b0 L0 : Nat} {xs : Nat → Int32} (Cx : ce_CL G A p s m args meth c) (hS : va_X b0 L0 xs s s.heap) (hbl : b0 < s.heap.size) (hbA : ¬ A b0) (hL : L0 ≤ 100000) {a i kc ks : Nat} (hi : i + 5 ≤ L0) (hc : kc ≤ 601000) (hs9 : ks ≤ 7290000) {σ : ce_S} {g : ce_D} {S : ks_S} (iv : sl_iv σ g a S) (cont : ∀ σ' g' S', sl_iv σ' g' a S' → ce_WL G A p e s m args below meth c Z room_1 (kc + 1) (ks + 6) 1931 [some (.ref b0), some (.ref a), some (.ref (a + 411)), some (.ref (a + 422)), some (.int (nI (i))), none, none] [] σ' g') : ce_WL G A p e s m args below meth c Z room_1 kc ks 814 [some (.ref b0), some (.ref a), some (.ref (a + 411)), some (.ref (a + 422)), some (.int (nI (i))), none, none] [] σ g := by
  obtain ⟨⟨b, hX, hr⟩, hD, hw, hm, iv⟩ := iv
  have h14 : sn S ≤ 14 := hr.2.1.1
  obtain ⟨R, V, S2, hR, iv2, hh, hhm⟩ := b_order iv h14 (xs (i + 1)) (xs (i + 2)) (xs (i + 3))
  refine sl_aload_n Cx dL_law_814 rfl ?_
  refine sl_aload_n Cx dL_law_815 rfl ?_
  refine sl_iload Cx dL_law_816 rfl ?_
  refine sl_iconst Cx (v := nI 1) dL_law_818 (by decide) ?_
  refine sl_iadd Cx (z := nI (i + 1)) dL_law_819 (nI_add _ _) ?_
  refine sl_sld Cx hS hbl hbA hL dL_law_820 (n := (i + 1)) rfl (by omega) ?_
  refine sl_aload_n Cx dL_law_821 rfl ?_
  refine sl_iload Cx dL_law_822 rfl ?_
  refine sl_iconst Cx (v := nI 2) dL_law_824 (by decide) ?_
  refine sl_iadd Cx (z := nI (i + 2)) dL_law_825 (nI_add _ _) ?_
  refine sl_sld Cx hS hbl hbA hL dL_law_826 (n := (i + 2)) rfl (by omega) ?_
  refine sl_aload_n Cx dL_law_827 rfl ?_
  refine sl_iload Cx dL_law_828 rfl ?_
  refine sl_iconst Cx (v := nI 3) dL_law_830 (by decide) ?_
  refine sl_iadd Cx (z := nI (i + 3)) dL_law_831 (nI_add _ _) ?_
  refine sl_sld Cx hS hbl hbA hL dL_law_832 (n := (i + 3)) rfl (by omega) ?_
  refine sl_aload_n Cx dL_law_833 rfl ?_
  refine sl_callSW Cx dL_law_834 hL_order kRL_151 (hh σ g a (a + 422) b hX hw hr) rfl rfl (by decide) (Nat.le_of_ble_eq_true rfl) (by show kc + 1 ≤ 601024; omega) (by show ks + 6 ≤ 7293034; omega) (fun v σ1 g1 h1 => ?_)
  obtain ⟨rfl, k1, k2, k3, k4⟩ := h1
  obtain ⟨hD1, hw1, hm1⟩ := iv_1 hD hw hm k1 k4
  refine sl_istore Cx dL_law_837 (Nat.le_of_ble_eq_true rfl) rfl ?_
  refine sl_aload_n Cx dL_law_839 rfl ?_
  refine sl_aload_n Cx dL_law_840 rfl ?_
  refine sl_iload Cx dL_law_841 rfl ?_
  refine sl_iconst Cx (v := nI 1) dL_law_843 (by decide) ?_
  refine sl_iadd Cx (z := nI (i + 1)) dL_law_844 (nI_add _ _) ?_
  refine sl_sld Cx hS hbl hbA hL dL_law_845 (n := (i + 1)) rfl (by omega) ?_
  refine sl_aload_n Cx dL_law_846 rfl ?_
  refine sl_iload Cx dL_law_847 rfl ?_
  refine sl_iconst Cx (v := nI 2) dL_law_849 (by decide) ?_
  refine sl_iadd Cx (z := nI (i + 2)) dL_law_850 (nI_add _ _) ?_
  refine sl_sld Cx hS hbl hbA hL dL_law_851 (n := (i + 2)) rfl (by omega) ?_
  refine sl_aload_n Cx dL_law_852 rfl ?_
  refine sl_iload Cx dL_law_853 rfl ?_
  refine sl_iconst Cx (v := nI 3) dL_law_855 (by decide) ?_
  refine sl_iadd Cx (z := nI (i + 3)) dL_law_856 (nI_add _ _) ?_
  refine sl_sld Cx hS hbl hbA hL dL_law_857 (n := (i + 3)) rfl (by omega) ?_
  refine sl_callV Cx dL_law_858 hX8_order kRL_153 (hhm σ1 g1 (a + 411) hD1 hm1) rfl rfl hD1.1 rfl (by decide) (Nat.le_of_ble_eq_true rfl) (by show kc + 1 + 0 ≤ 601024; omega) (by show ks + 6 + 0 ≤ 7293034; omega) (fun v σ2 g2 h2 => ?_)
  obtain ⟨z, rfl, rfl, z1, z2, z3, z4⟩ := h2
  refine sl_istore Cx dL_law_861 (Nat.le_of_ble_eq_true rfl) rfl ?_
  refine sl_aload_n Cx dL_law_863 rfl ?_
  refine sl_callV Cx dL_law_864 hX8_thrown kRL_110 (m_X8_thrown (a + 411) hD1) rfl rfl hD1.1 rfl (by decide) (Nat.le_of_ble_eq_true rfl) (by show kc + 1 + 0 + 0 ≤ 601024; omega) (by show ks + 6 + 0 + 0 ≤ 7293034; omega) (fun v σ3 g3 h3 => ?_)
  obtain ⟨rfl, rfl, rfl⟩ := h3
  refine sl_iload Cx dL_law_867 rfl ?_
  refine sl_icmp_eq Cx (tgt := 874) dL_law_869 (by decide) (fun _ => ?_) (fun q => absurd z2 q)
  refine sl_iload Cx dL_law_874 rfl ?_
  refine sl_if_ne Cx (tgt := 891) dL_law_876 (by decide) (fun _ => ?_) (fun q => ?_)
  · refine sl_goto Cx (tgt := 1931) dL_law_891 (by decide) ?_
    refine sl_drop (L' := [some (.ref b0), some (.ref a), some (.ref (a + 411)), some (.ref (a + 422)), some (.int (nI (i))), none, none]) (ce_le_s rfl (ce_le_s rfl (ce_le_s rfl (ce_le_s rfl (ce_le_s rfl (ce_le_n (ce_le_n ce_le_e))))))) ?_
    exact cont _ _ _ (iv_2 k3 hD1 hw1 z3 z4 iv2)
  · have hR0 : R = 0 := (nI_eq (by omega) (by decide)).mp (q.trans nI_0.symm)
    refine sl_aload_n Cx dL_law_879 rfl ?_
    refine sl_iconst Cx (v := nI 0) dL_law_880 (by decide) ?_
    refine sl_lald Cx (n := 0) (len := 1) dL_law_881 hw1.1 rfl hw1.2 (by decide) (by decide) ?_
    refine sl_iload Cx dL_law_882 rfl ?_
    refine sl_i2l Cx (v := z.toInt64) dL_law_884 rfl ?_
    refine sl_lcmp Cx dL_law_885 rfl ?_
    refine sl_if_eq Cx (tgt := 891) dL_law_886 (by decide) (fun _ => ?_) (fun q2 => absurd (ce_lg_lt.2.1.mpr (by rw [k2 hR0, z1 hR0])) q2)
    refine sl_goto Cx (tgt := 1931) dL_law_891 (by decide) ?_
    refine sl_drop (L' := [some (.ref b0), some (.ref a), some (.ref (a + 411)), some (.ref (a + 422)), some (.int (nI (i))), none, none]) (ce_le_s rfl (ce_le_s rfl (ce_le_s rfl (ce_le_s rfl (ce_le_s rfl (ce_le_n (ce_le_n ce_le_e))))))) ?_
    exact cont _ _ _ (iv_2 k3 hD1 hw1 z3 z4 iv2)
set_option maxHeartbeats 2000000 in
set_option maxRecDepth 20000 in
theorem c_13 {G : ce_G} {A : Nat → Prop} {p : Program} {e : Env} {s : State} {m : MethodId} {args : Array Value} {below : List Frame} {meth : Method} {c : Code} {Z : State → Prop} {b0 L0 : Nat} {xs : Nat → Int32} (Cx : ce_CL G A p s m args meth c) (hS : va_X b0 L0 xs s s.heap) (hbl : b0 < s.heap.size) (hbA : ¬ A b0) (hL : L0 ≤ 100000) {a i kc ks : Nat} (hi : i + 5 ≤ L0) (hc : kc ≤ 601000) (hs9 : ks ≤ 7290000) {σ : ce_S} {g : ce_D} {S : ks_S} (iv : sl_iv σ g a S) (cont : ∀ σ' g' S', sl_iv σ' g' a S' → ce_WL G A p e s m args below meth c Z room_1 (kc + 1) (ks + 6) 1931 [some (.ref b0), some (.ref a), some (.ref (a + 411)), some (.ref (a + 422)), some (.int (nI (i))), none, none] [] σ' g') : ce_WL G A p e s m args below meth c Z room_1 kc ks 894 [some (.ref b0), some (.ref a), some (.ref (a + 411)), some (.ref (a + 422)), some (.int (nI (i))), none, none] [] σ g := by
  obtain ⟨⟨b, hX, hr⟩, hD, hw, hm, iv⟩ := iv
  have h14 : sn S ≤ 14 := hr.2.1.1
  obtain ⟨R, V, S2, hR, iv2, hh, hhm⟩ := b_allocate iv h14 (xs (i + 1))
  refine sl_aload_n Cx dL_law_894 rfl ?_
  refine sl_aload_n Cx dL_law_895 rfl ?_
  refine sl_iload Cx dL_law_896 rfl ?_
  refine sl_iconst Cx (v := nI 1) dL_law_898 (by decide) ?_
  refine sl_iadd Cx (z := nI (i + 1)) dL_law_899 (nI_add _ _) ?_
  refine sl_sld Cx hS hbl hbA hL dL_law_900 (n := (i + 1)) rfl (by omega) ?_
  refine sl_aload_n Cx dL_law_901 rfl ?_
  refine sl_callSW Cx dL_law_902 hL_allocate kRL_154 (hh σ g a (a + 422) b hX hw hr) rfl rfl (by decide) (Nat.le_of_ble_eq_true rfl) (by show kc + 1 ≤ 601024; omega) (by show ks + 6 ≤ 7293034; omega) (fun v σ1 g1 h1 => ?_)
  obtain ⟨rfl, k1, k2, k3, k4⟩ := h1
  obtain ⟨hD1, hw1, hm1⟩ := iv_1 hD hw hm k1 k4
  refine sl_istore Cx dL_law_905 (Nat.le_of_ble_eq_true rfl) rfl ?_
  refine sl_aload_n Cx dL_law_907 rfl ?_
  refine sl_aload_n Cx dL_law_908 rfl ?_
  refine sl_iload Cx dL_law_909 rfl ?_
  refine sl_iconst Cx (v := nI 1) dL_law_911 (by decide) ?_
  refine sl_iadd Cx (z := nI (i + 1)) dL_law_912 (nI_add _ _) ?_
  refine sl_sld Cx hS hbl hbA hL dL_law_913 (n := (i + 1)) rfl (by omega) ?_
  refine sl_callV Cx dL_law_914 hX8_allocate kRL_156 (hhm σ1 g1 (a + 411) hD1 hm1) rfl rfl hD1.1 rfl (by decide) (Nat.le_of_ble_eq_true rfl) (by show kc + 1 + 0 ≤ 601024; omega) (by show ks + 6 + 0 ≤ 7293034; omega) (fun v σ2 g2 h2 => ?_)
  obtain ⟨z, rfl, rfl, z1, z2, z3, z4⟩ := h2
  refine sl_istore Cx dL_law_917 (Nat.le_of_ble_eq_true rfl) rfl ?_
  refine sl_aload_n Cx dL_law_919 rfl ?_
  refine sl_callV Cx dL_law_920 hX8_thrown kRL_110 (m_X8_thrown (a + 411) hD1) rfl rfl hD1.1 rfl (by decide) (Nat.le_of_ble_eq_true rfl) (by show kc + 1 + 0 + 0 ≤ 601024; omega) (by show ks + 6 + 0 + 0 ≤ 7293034; omega) (fun v σ3 g3 h3 => ?_)
  obtain ⟨rfl, rfl, rfl⟩ := h3
  refine sl_iload Cx dL_law_923 rfl ?_
  refine sl_icmp_eq Cx (tgt := 930) dL_law_925 (by decide) (fun _ => ?_) (fun q => absurd z2 q)
  refine sl_iload Cx dL_law_930 rfl ?_
  refine sl_if_ne Cx (tgt := 947) dL_law_932 (by decide) (fun _ => ?_) (fun q => ?_)
  · refine sl_goto Cx (tgt := 1931) dL_law_947 (by decide) ?_
    refine sl_drop (L' := [some (.ref b0), some (.ref a), some (.ref (a + 411)), some (.ref (a + 422)), some (.int (nI (i))), none, none]) (ce_le_s rfl (ce_le_s rfl (ce_le_s rfl (ce_le_s rfl (ce_le_s rfl (ce_le_n (ce_le_n ce_le_e))))))) ?_
    exact cont _ _ _ (iv_2 k3 hD1 hw1 z3 z4 iv2)
  · have hR0 : R = 0 := (nI_eq (by omega) (by decide)).mp (q.trans nI_0.symm)
    refine sl_aload_n Cx dL_law_935 rfl ?_
    refine sl_iconst Cx (v := nI 0) dL_law_936 (by decide) ?_
    refine sl_lald Cx (n := 0) (len := 1) dL_law_937 hw1.1 rfl hw1.2 (by decide) (by decide) ?_
    refine sl_iload Cx dL_law_938 rfl ?_
    refine sl_i2l Cx (v := z.toInt64) dL_law_940 rfl ?_
    refine sl_lcmp Cx dL_law_941 rfl ?_
    refine sl_if_eq Cx (tgt := 947) dL_law_942 (by decide) (fun _ => ?_) (fun q2 => absurd (ce_lg_lt.2.1.mpr (by rw [k2 hR0, z1 hR0])) q2)
    refine sl_goto Cx (tgt := 1931) dL_law_947 (by decide) ?_
    refine sl_drop (L' := [some (.ref b0), some (.ref a), some (.ref (a + 411)), some (.ref (a + 422)), some (.int (nI (i))), none, none]) (ce_le_s rfl (ce_le_s rfl (ce_le_s rfl (ce_le_s rfl (ce_le_s rfl (ce_le_n (ce_le_n ce_le_e))))))) ?_
    exact cont _ _ _ (iv_2 k3 hD1 hw1 z3 z4 iv2)
set_option maxHeartbeats 2000000 in
set_option maxRecDepth 20000 in
theorem c_14 {G : ce_G} {A : Nat → Prop} {p : Program} {e : Env} {s : State} {m : MethodId} {args : Array Value} {below : List Frame} {meth : Method} {c : Code} {Z : State → Prop} {b0 L0 : Nat} {xs : Nat → Int32} (Cx : ce_CL G A p s m args meth c) (hS : va_X b0 L0 xs s s.heap) (hbl : b0 < s.heap.size) (hbA : ¬ A b0) (hL : L0 ≤ 100000) {a i kc ks : Nat} (hi : i + 5 ≤ L0) (hc : kc ≤ 601000) (hs9 : ks ≤ 7290000) {σ : ce_S} {g : ce_D} {S : ks_S} (iv : sl_iv σ g a S) (cont : ∀ σ' g' S', sl_iv σ' g' a S' → ce_WL G A p e s m args below meth c Z room_1 (kc + 1) (ks + 6) 1931 [some (.ref b0), some (.ref a), some (.ref (a + 411)), some (.ref (a + 422)), some (.int (nI (i))), none, none] [] σ' g') : ce_WL G A p e s m args below meth c Z room_1 kc ks 950 [some (.ref b0), some (.ref a), some (.ref (a + 411)), some (.ref (a + 422)), some (.int (nI (i))), none, none] [] σ g := by
  obtain ⟨⟨b, hX, hr⟩, hD, hw, hm, iv⟩ := iv
  have h14 : sn S ≤ 14 := hr.2.1.1
  obtain ⟨R, V, S2, hR, iv2, hh, hhm⟩ := b_deliver iv h14 (xs (i + 1))
  refine sl_aload_n Cx dL_law_950 rfl ?_
  refine sl_aload_n Cx dL_law_951 rfl ?_
  refine sl_iload Cx dL_law_952 rfl ?_
  refine sl_iconst Cx (v := nI 1) dL_law_954 (by decide) ?_
  refine sl_iadd Cx (z := nI (i + 1)) dL_law_955 (nI_add _ _) ?_
  refine sl_sld Cx hS hbl hbA hL dL_law_956 (n := (i + 1)) rfl (by omega) ?_
  refine sl_aload_n Cx dL_law_957 rfl ?_
  refine sl_callSW Cx dL_law_958 hL_deliver kRL_157 (hh σ g a (a + 422) b hX hw hr) rfl rfl (by decide) (Nat.le_of_ble_eq_true rfl) (by show kc + 1 ≤ 601024; omega) (by show ks + 6 ≤ 7293034; omega) (fun v σ1 g1 h1 => ?_)
  obtain ⟨rfl, k1, k2, k3, k4⟩ := h1
  obtain ⟨hD1, hw1, hm1⟩ := iv_1 hD hw hm k1 k4
  refine sl_istore Cx dL_law_961 (Nat.le_of_ble_eq_true rfl) rfl ?_
  refine sl_aload_n Cx dL_law_963 rfl ?_
  refine sl_aload_n Cx dL_law_964 rfl ?_
  refine sl_iload Cx dL_law_965 rfl ?_
  refine sl_iconst Cx (v := nI 1) dL_law_967 (by decide) ?_
  refine sl_iadd Cx (z := nI (i + 1)) dL_law_968 (nI_add _ _) ?_
  refine sl_sld Cx hS hbl hbA hL dL_law_969 (n := (i + 1)) rfl (by omega) ?_
  refine sl_callV Cx dL_law_970 hX8_deliver kRL_159 (hhm σ1 g1 (a + 411) hD1 hm1) rfl rfl hD1.1 rfl (by decide) (Nat.le_of_ble_eq_true rfl) (by show kc + 1 + 0 ≤ 601024; omega) (by show ks + 6 + 0 ≤ 7293034; omega) (fun v σ2 g2 h2 => ?_)
  obtain ⟨z, rfl, rfl, z1, z2, z3, z4⟩ := h2
  refine sl_istore Cx dL_law_973 (Nat.le_of_ble_eq_true rfl) rfl ?_
  refine sl_aload_n Cx dL_law_975 rfl ?_
  refine sl_callV Cx dL_law_976 hX8_thrown kRL_110 (m_X8_thrown (a + 411) hD1) rfl rfl hD1.1 rfl (by decide) (Nat.le_of_ble_eq_true rfl) (by show kc + 1 + 0 + 0 ≤ 601024; omega) (by show ks + 6 + 0 + 0 ≤ 7293034; omega) (fun v σ3 g3 h3 => ?_)
  obtain ⟨rfl, rfl, rfl⟩ := h3
  refine sl_iload Cx dL_law_979 rfl ?_
  refine sl_icmp_eq Cx (tgt := 986) dL_law_981 (by decide) (fun _ => ?_) (fun q => absurd z2 q)
  refine sl_iload Cx dL_law_986 rfl ?_
  refine sl_if_ne Cx (tgt := 1003) dL_law_988 (by decide) (fun _ => ?_) (fun q => ?_)
  · refine sl_goto Cx (tgt := 1931) dL_law_1003 (by decide) ?_
    refine sl_drop (L' := [some (.ref b0), some (.ref a), some (.ref (a + 411)), some (.ref (a + 422)), some (.int (nI (i))), none, none]) (ce_le_s rfl (ce_le_s rfl (ce_le_s rfl (ce_le_s rfl (ce_le_s rfl (ce_le_n (ce_le_n ce_le_e))))))) ?_
    exact cont _ _ _ (iv_2 k3 hD1 hw1 z3 z4 iv2)
  · have hR0 : R = 0 := (nI_eq (by omega) (by decide)).mp (q.trans nI_0.symm)
    refine sl_aload_n Cx dL_law_991 rfl ?_
    refine sl_iconst Cx (v := nI 0) dL_law_992 (by decide) ?_
    refine sl_lald Cx (n := 0) (len := 1) dL_law_993 hw1.1 rfl hw1.2 (by decide) (by decide) ?_
    refine sl_iload Cx dL_law_994 rfl ?_
    refine sl_i2l Cx (v := z.toInt64) dL_law_996 rfl ?_
    refine sl_lcmp Cx dL_law_997 rfl ?_
    refine sl_if_eq Cx (tgt := 1003) dL_law_998 (by decide) (fun _ => ?_) (fun q2 => absurd (ce_lg_lt.2.1.mpr (by rw [k2 hR0, z1 hR0])) q2)
    refine sl_goto Cx (tgt := 1931) dL_law_1003 (by decide) ?_
    refine sl_drop (L' := [some (.ref b0), some (.ref a), some (.ref (a + 411)), some (.ref (a + 422)), some (.int (nI (i))), none, none]) (ce_le_s rfl (ce_le_s rfl (ce_le_s rfl (ce_le_s rfl (ce_le_s rfl (ce_le_n (ce_le_n ce_le_e))))))) ?_
    exact cont _ _ _ (iv_2 k3 hD1 hw1 z3 z4 iv2)
set_option maxHeartbeats 2000000 in
set_option maxRecDepth 20000 in
theorem c_15 {G : ce_G} {A : Nat → Prop} {p : Program} {e : Env} {s : State} {m : MethodId} {args : Array Value} {below : List Frame} {meth : Method} {c : Code} {Z : State → Prop} {b0 L0 : Nat} {xs : Nat → Int32} (Cx : ce_CL G A p s m args meth c) (hS : va_X b0 L0 xs s s.heap) (hbl : b0 < s.heap.size) (hbA : ¬ A b0) (hL : L0 ≤ 100000) {a i kc ks : Nat} (hi : i + 5 ≤ L0) (hc : kc ≤ 601000) (hs9 : ks ≤ 7290000) {σ : ce_S} {g : ce_D} {S : ks_S} (iv : sl_iv σ g a S) (cont : ∀ σ' g' S', sl_iv σ' g' a S' → ce_WL G A p e s m args below meth c Z room_1 (kc + 1) (ks + 6) 1931 [some (.ref b0), some (.ref a), some (.ref (a + 411)), some (.ref (a + 422)), some (.int (nI (i))), none, none] [] σ' g') : ce_WL G A p e s m args below meth c Z room_1 kc ks 1006 [some (.ref b0), some (.ref a), some (.ref (a + 411)), some (.ref (a + 422)), some (.int (nI (i))), none, none] [] σ g := by
  obtain ⟨⟨b, hX, hr⟩, hD, hw, hm, iv⟩ := iv
  have h14 : sn S ≤ 14 := hr.2.1.1
  obtain ⟨R, V, S2, hR, iv2, hh, hhm⟩ := b_drink iv h14 (xs (i + 1)) (xs (i + 2)) (xs (i + 3))
  refine sl_aload_n Cx dL_law_1006 rfl ?_
  refine sl_aload_n Cx dL_law_1007 rfl ?_
  refine sl_iload Cx dL_law_1008 rfl ?_
  refine sl_iconst Cx (v := nI 1) dL_law_1010 (by decide) ?_
  refine sl_iadd Cx (z := nI (i + 1)) dL_law_1011 (nI_add _ _) ?_
  refine sl_sld Cx hS hbl hbA hL dL_law_1012 (n := (i + 1)) rfl (by omega) ?_
  refine sl_aload_n Cx dL_law_1013 rfl ?_
  refine sl_iload Cx dL_law_1014 rfl ?_
  refine sl_iconst Cx (v := nI 2) dL_law_1016 (by decide) ?_
  refine sl_iadd Cx (z := nI (i + 2)) dL_law_1017 (nI_add _ _) ?_
  refine sl_sld Cx hS hbl hbA hL dL_law_1018 (n := (i + 2)) rfl (by omega) ?_
  refine sl_aload_n Cx dL_law_1019 rfl ?_
  refine sl_iload Cx dL_law_1020 rfl ?_
  refine sl_iconst Cx (v := nI 3) dL_law_1022 (by decide) ?_
  refine sl_iadd Cx (z := nI (i + 3)) dL_law_1023 (nI_add _ _) ?_
  refine sl_sld Cx hS hbl hbA hL dL_law_1024 (n := (i + 3)) rfl (by omega) ?_
  refine sl_aload_n Cx dL_law_1025 rfl ?_
  refine sl_callSW Cx dL_law_1026 hL_drink kRL_160 (hh σ g a (a + 422) b hX hw hr) rfl rfl (by decide) (Nat.le_of_ble_eq_true rfl) (by show kc + 1 ≤ 601024; omega) (by show ks + 6 ≤ 7293034; omega) (fun v σ1 g1 h1 => ?_)
  obtain ⟨rfl, k1, k2, k3, k4⟩ := h1
  obtain ⟨hD1, hw1, hm1⟩ := iv_1 hD hw hm k1 k4
  refine sl_istore Cx dL_law_1029 (Nat.le_of_ble_eq_true rfl) rfl ?_
  refine sl_aload_n Cx dL_law_1031 rfl ?_
  refine sl_aload_n Cx dL_law_1032 rfl ?_
  refine sl_iload Cx dL_law_1033 rfl ?_
  refine sl_iconst Cx (v := nI 1) dL_law_1035 (by decide) ?_
  refine sl_iadd Cx (z := nI (i + 1)) dL_law_1036 (nI_add _ _) ?_
  refine sl_sld Cx hS hbl hbA hL dL_law_1037 (n := (i + 1)) rfl (by omega) ?_
  refine sl_aload_n Cx dL_law_1038 rfl ?_
  refine sl_iload Cx dL_law_1039 rfl ?_
  refine sl_iconst Cx (v := nI 2) dL_law_1041 (by decide) ?_
  refine sl_iadd Cx (z := nI (i + 2)) dL_law_1042 (nI_add _ _) ?_
  refine sl_sld Cx hS hbl hbA hL dL_law_1043 (n := (i + 2)) rfl (by omega) ?_
  refine sl_aload_n Cx dL_law_1044 rfl ?_
  refine sl_iload Cx dL_law_1045 rfl ?_
  refine sl_iconst Cx (v := nI 3) dL_law_1047 (by decide) ?_
  refine sl_iadd Cx (z := nI (i + 3)) dL_law_1048 (nI_add _ _) ?_
  refine sl_sld Cx hS hbl hbA hL dL_law_1049 (n := (i + 3)) rfl (by omega) ?_
  refine sl_callV Cx dL_law_1050 hX8_drink kRL_162 (hhm σ1 g1 (a + 411) hD1 hm1) rfl rfl hD1.1 rfl (by decide) (Nat.le_of_ble_eq_true rfl) (by show kc + 1 + 0 ≤ 601024; omega) (by show ks + 6 + 0 ≤ 7293034; omega) (fun v σ2 g2 h2 => ?_)
  obtain ⟨z, rfl, rfl, z1, z2, z3, z4⟩ := h2
  refine sl_istore Cx dL_law_1053 (Nat.le_of_ble_eq_true rfl) rfl ?_
  refine sl_aload_n Cx dL_law_1055 rfl ?_
  refine sl_callV Cx dL_law_1056 hX8_thrown kRL_110 (m_X8_thrown (a + 411) hD1) rfl rfl hD1.1 rfl (by decide) (Nat.le_of_ble_eq_true rfl) (by show kc + 1 + 0 + 0 ≤ 601024; omega) (by show ks + 6 + 0 + 0 ≤ 7293034; omega) (fun v σ3 g3 h3 => ?_)
  obtain ⟨rfl, rfl, rfl⟩ := h3
  refine sl_iload Cx dL_law_1059 rfl ?_
  refine sl_icmp_eq Cx (tgt := 1066) dL_law_1061 (by decide) (fun _ => ?_) (fun q => absurd z2 q)
  refine sl_iload Cx dL_law_1066 rfl ?_
  refine sl_if_ne Cx (tgt := 1083) dL_law_1068 (by decide) (fun _ => ?_) (fun q => ?_)
  · refine sl_goto Cx (tgt := 1931) dL_law_1083 (by decide) ?_
    refine sl_drop (L' := [some (.ref b0), some (.ref a), some (.ref (a + 411)), some (.ref (a + 422)), some (.int (nI (i))), none, none]) (ce_le_s rfl (ce_le_s rfl (ce_le_s rfl (ce_le_s rfl (ce_le_s rfl (ce_le_n (ce_le_n ce_le_e))))))) ?_
    exact cont _ _ _ (iv_2 k3 hD1 hw1 z3 z4 iv2)
  · have hR0 : R = 0 := (nI_eq (by omega) (by decide)).mp (q.trans nI_0.symm)
    refine sl_aload_n Cx dL_law_1071 rfl ?_
    refine sl_iconst Cx (v := nI 0) dL_law_1072 (by decide) ?_
    refine sl_lald Cx (n := 0) (len := 1) dL_law_1073 hw1.1 rfl hw1.2 (by decide) (by decide) ?_
    refine sl_iload Cx dL_law_1074 rfl ?_
    refine sl_i2l Cx (v := z.toInt64) dL_law_1076 rfl ?_
    refine sl_lcmp Cx dL_law_1077 rfl ?_
    refine sl_if_eq Cx (tgt := 1083) dL_law_1078 (by decide) (fun _ => ?_) (fun q2 => absurd (ce_lg_lt.2.1.mpr (by rw [k2 hR0, z1 hR0])) q2)
    refine sl_goto Cx (tgt := 1931) dL_law_1083 (by decide) ?_
    refine sl_drop (L' := [some (.ref b0), some (.ref a), some (.ref (a + 411)), some (.ref (a + 422)), some (.int (nI (i))), none, none]) (ce_le_s rfl (ce_le_s rfl (ce_le_s rfl (ce_le_s rfl (ce_le_s rfl (ce_le_n (ce_le_n ce_le_e))))))) ?_
    exact cont _ _ _ (iv_2 k3 hD1 hw1 z3 z4 iv2)
set_option maxHeartbeats 2000000 in
set_option maxRecDepth 20000 in
theorem c_16 {G : ce_G} {A : Nat → Prop} {p : Program} {e : Env} {s : State} {m : MethodId} {args : Array Value} {below : List Frame} {meth : Method} {c : Code} {Z : State → Prop} {b0 L0 : Nat} {xs : Nat → Int32} (Cx : ce_CL G A p s m args meth c) (hS : va_X b0 L0 xs s s.heap) (hbl : b0 < s.heap.size) (hbA : ¬ A b0) (hL : L0 ≤ 100000) {a i kc ks : Nat} (hi : i + 5 ≤ L0) (hc : kc ≤ 601000) (hs9 : ks ≤ 7290000) {σ : ce_S} {g : ce_D} {S : ks_S} (iv : sl_iv σ g a S) (cont : ∀ σ' g' S', sl_iv σ' g' a S' → ce_WL G A p e s m args below meth c Z room_1 (kc + 1) (ks + 6) 1931 [some (.ref b0), some (.ref a), some (.ref (a + 411)), some (.ref (a + 422)), some (.int (nI (i))), none, none] [] σ' g') : ce_WL G A p e s m args below meth c Z room_1 kc ks 1086 [some (.ref b0), some (.ref a), some (.ref (a + 411)), some (.ref (a + 422)), some (.int (nI (i))), none, none] [] σ g := by
  obtain ⟨⟨b, hX, hr⟩, hD, hw, hm, iv⟩ := iv
  have h14 : sn S ≤ 14 := hr.2.1.1
  obtain ⟨R, V, S2, hR, iv2, hh, hhm⟩ := b_give iv h14 (xs (i + 1)) (xs (i + 2)) (xs (i + 3)) (xs (i + 4))
  refine sl_aload_n Cx dL_law_1086 rfl ?_
  refine sl_aload_n Cx dL_law_1087 rfl ?_
  refine sl_iload Cx dL_law_1088 rfl ?_
  refine sl_iconst Cx (v := nI 1) dL_law_1090 (by decide) ?_
  refine sl_iadd Cx (z := nI (i + 1)) dL_law_1091 (nI_add _ _) ?_
  refine sl_sld Cx hS hbl hbA hL dL_law_1092 (n := (i + 1)) rfl (by omega) ?_
  refine sl_aload_n Cx dL_law_1093 rfl ?_
  refine sl_iload Cx dL_law_1094 rfl ?_
  refine sl_iconst Cx (v := nI 2) dL_law_1096 (by decide) ?_
  refine sl_iadd Cx (z := nI (i + 2)) dL_law_1097 (nI_add _ _) ?_
  refine sl_sld Cx hS hbl hbA hL dL_law_1098 (n := (i + 2)) rfl (by omega) ?_
  refine sl_aload_n Cx dL_law_1099 rfl ?_
  refine sl_iload Cx dL_law_1100 rfl ?_
  refine sl_iconst Cx (v := nI 3) dL_law_1102 (by decide) ?_
  refine sl_iadd Cx (z := nI (i + 3)) dL_law_1103 (nI_add _ _) ?_
  refine sl_sld Cx hS hbl hbA hL dL_law_1104 (n := (i + 3)) rfl (by omega) ?_
  refine sl_aload_n Cx dL_law_1105 rfl ?_
  refine sl_iload Cx dL_law_1106 rfl ?_
  refine sl_iconst Cx (v := nI 4) dL_law_1108 (by decide) ?_
  refine sl_iadd Cx (z := nI (i + 4)) dL_law_1109 (nI_add _ _) ?_
  refine sl_sld Cx hS hbl hbA hL dL_law_1110 (n := (i + 4)) rfl (by omega) ?_
  refine sl_aload_n Cx dL_law_1111 rfl ?_
  refine sl_callSW Cx dL_law_1112 hL_give kRL_163 (hh σ g a (a + 422) b hX hw hr) rfl rfl (by decide) (Nat.le_of_ble_eq_true rfl) (by show kc + 1 ≤ 601024; omega) (by show ks + 6 ≤ 7293034; omega) (fun v σ1 g1 h1 => ?_)
  obtain ⟨rfl, k1, k2, k3, k4⟩ := h1
  obtain ⟨hD1, hw1, hm1⟩ := iv_1 hD hw hm k1 k4
  refine sl_istore Cx dL_law_1115 (Nat.le_of_ble_eq_true rfl) rfl ?_
  refine sl_aload_n Cx dL_law_1117 rfl ?_
  refine sl_aload_n Cx dL_law_1118 rfl ?_
  refine sl_iload Cx dL_law_1119 rfl ?_
  refine sl_iconst Cx (v := nI 1) dL_law_1121 (by decide) ?_
  refine sl_iadd Cx (z := nI (i + 1)) dL_law_1122 (nI_add _ _) ?_
  refine sl_sld Cx hS hbl hbA hL dL_law_1123 (n := (i + 1)) rfl (by omega) ?_
  refine sl_aload_n Cx dL_law_1124 rfl ?_
  refine sl_iload Cx dL_law_1125 rfl ?_
  refine sl_iconst Cx (v := nI 2) dL_law_1127 (by decide) ?_
  refine sl_iadd Cx (z := nI (i + 2)) dL_law_1128 (nI_add _ _) ?_
  refine sl_sld Cx hS hbl hbA hL dL_law_1129 (n := (i + 2)) rfl (by omega) ?_
  refine sl_aload_n Cx dL_law_1130 rfl ?_
  refine sl_iload Cx dL_law_1131 rfl ?_
  refine sl_iconst Cx (v := nI 3) dL_law_1133 (by decide) ?_
  refine sl_iadd Cx (z := nI (i + 3)) dL_law_1134 (nI_add _ _) ?_
  refine sl_sld Cx hS hbl hbA hL dL_law_1135 (n := (i + 3)) rfl (by omega) ?_
  refine sl_aload_n Cx dL_law_1136 rfl ?_
  refine sl_iload Cx dL_law_1137 rfl ?_
  refine sl_iconst Cx (v := nI 4) dL_law_1139 (by decide) ?_
  refine sl_iadd Cx (z := nI (i + 4)) dL_law_1140 (nI_add _ _) ?_
  refine sl_sld Cx hS hbl hbA hL dL_law_1141 (n := (i + 4)) rfl (by omega) ?_
  refine sl_callV Cx dL_law_1142 hX8_give kRL_166 (hhm σ1 g1 (a + 411) hD1 hm1) rfl rfl hD1.1 rfl (by decide) (Nat.le_of_ble_eq_true rfl) (by show kc + 1 + 0 ≤ 601024; omega) (by show ks + 6 + 0 ≤ 7293034; omega) (fun v σ2 g2 h2 => ?_)
  obtain ⟨z, rfl, rfl, z1, z2, z3, z4⟩ := h2
  refine sl_istore Cx dL_law_1145 (Nat.le_of_ble_eq_true rfl) rfl ?_
  refine sl_aload_n Cx dL_law_1147 rfl ?_
  refine sl_callV Cx dL_law_1148 hX8_thrown kRL_110 (m_X8_thrown (a + 411) hD1) rfl rfl hD1.1 rfl (by decide) (Nat.le_of_ble_eq_true rfl) (by show kc + 1 + 0 + 0 ≤ 601024; omega) (by show ks + 6 + 0 + 0 ≤ 7293034; omega) (fun v σ3 g3 h3 => ?_)
  obtain ⟨rfl, rfl, rfl⟩ := h3
  refine sl_iload Cx dL_law_1151 rfl ?_
  refine sl_icmp_eq Cx (tgt := 1158) dL_law_1153 (by decide) (fun _ => ?_) (fun q => absurd z2 q)
  refine sl_iload Cx dL_law_1158 rfl ?_
  refine sl_if_ne Cx (tgt := 1175) dL_law_1160 (by decide) (fun _ => ?_) (fun q => ?_)
  · refine sl_goto Cx (tgt := 1931) dL_law_1175 (by decide) ?_
    refine sl_drop (L' := [some (.ref b0), some (.ref a), some (.ref (a + 411)), some (.ref (a + 422)), some (.int (nI (i))), none, none]) (ce_le_s rfl (ce_le_s rfl (ce_le_s rfl (ce_le_s rfl (ce_le_s rfl (ce_le_n (ce_le_n ce_le_e))))))) ?_
    exact cont _ _ _ (iv_2 k3 hD1 hw1 z3 z4 iv2)
  · have hR0 : R = 0 := (nI_eq (by omega) (by decide)).mp (q.trans nI_0.symm)
    refine sl_aload_n Cx dL_law_1163 rfl ?_
    refine sl_iconst Cx (v := nI 0) dL_law_1164 (by decide) ?_
    refine sl_lald Cx (n := 0) (len := 1) dL_law_1165 hw1.1 rfl hw1.2 (by decide) (by decide) ?_
    refine sl_iload Cx dL_law_1166 rfl ?_
    refine sl_i2l Cx (v := z.toInt64) dL_law_1168 rfl ?_
    refine sl_lcmp Cx dL_law_1169 rfl ?_
    refine sl_if_eq Cx (tgt := 1175) dL_law_1170 (by decide) (fun _ => ?_) (fun q2 => absurd (ce_lg_lt.2.1.mpr (by rw [k2 hR0, z1 hR0])) q2)
    refine sl_goto Cx (tgt := 1931) dL_law_1175 (by decide) ?_
    refine sl_drop (L' := [some (.ref b0), some (.ref a), some (.ref (a + 411)), some (.ref (a + 422)), some (.int (nI (i))), none, none]) (ce_le_s rfl (ce_le_s rfl (ce_le_s rfl (ce_le_s rfl (ce_le_s rfl (ce_le_n (ce_le_n ce_le_e))))))) ?_
    exact cont _ _ _ (iv_2 k3 hD1 hw1 z3 z4 iv2)
set_option maxHeartbeats 2000000 in
set_option maxRecDepth 20000 in
theorem c_17 {G : ce_G} {A : Nat → Prop} {p : Program} {e : Env} {s : State} {m : MethodId} {args : Array Value} {below : List Frame} {meth : Method} {c : Code} {Z : State → Prop} {b0 L0 : Nat} {xs : Nat → Int32} (Cx : ce_CL G A p s m args meth c) (hS : va_X b0 L0 xs s s.heap) (hbl : b0 < s.heap.size) (hbA : ¬ A b0) (hL : L0 ≤ 100000) {a i kc ks : Nat} (hi : i + 5 ≤ L0) (hc : kc ≤ 601000) (hs9 : ks ≤ 7290000) {σ : ce_S} {g : ce_D} {S : ks_S} (iv : sl_iv σ g a S) (cont : ∀ σ' g' S', sl_iv σ' g' a S' → ce_WL G A p e s m args below meth c Z room_1 (kc + 1) (ks + 6) 1931 [some (.ref b0), some (.ref a), some (.ref (a + 411)), some (.ref (a + 422)), some (.int (nI (i))), none, none] [] σ' g') : ce_WL G A p e s m args below meth c Z room_1 kc ks 1178 [some (.ref b0), some (.ref a), some (.ref (a + 411)), some (.ref (a + 422)), some (.int (nI (i))), none, none] [] σ g := by
  obtain ⟨⟨b, hX, hr⟩, hD, hw, hm, iv⟩ := iv
  have h14 : sn S ≤ 14 := hr.2.1.1
  obtain ⟨R, V, S2, hR, iv2, hh, hhm⟩ := b_cork iv h14 (xs (i + 1)) (xs (i + 2))
  refine sl_aload_n Cx dL_law_1178 rfl ?_
  refine sl_aload_n Cx dL_law_1179 rfl ?_
  refine sl_iload Cx dL_law_1180 rfl ?_
  refine sl_iconst Cx (v := nI 1) dL_law_1182 (by decide) ?_
  refine sl_iadd Cx (z := nI (i + 1)) dL_law_1183 (nI_add _ _) ?_
  refine sl_sld Cx hS hbl hbA hL dL_law_1184 (n := (i + 1)) rfl (by omega) ?_
  refine sl_aload_n Cx dL_law_1185 rfl ?_
  refine sl_iload Cx dL_law_1186 rfl ?_
  refine sl_iconst Cx (v := nI 2) dL_law_1188 (by decide) ?_
  refine sl_iadd Cx (z := nI (i + 2)) dL_law_1189 (nI_add _ _) ?_
  refine sl_sld Cx hS hbl hbA hL dL_law_1190 (n := (i + 2)) rfl (by omega) ?_
  refine sl_aload_n Cx dL_law_1191 rfl ?_
  refine sl_callSW Cx dL_law_1192 hL_cork kRL_167 (hh σ g a (a + 422) b hX hw hr) rfl rfl (by decide) (Nat.le_of_ble_eq_true rfl) (by show kc + 1 ≤ 601024; omega) (by show ks + 6 ≤ 7293034; omega) (fun v σ1 g1 h1 => ?_)
  obtain ⟨rfl, k1, k2, k3, k4⟩ := h1
  obtain ⟨hD1, hw1, hm1⟩ := iv_1 hD hw hm k1 k4
  refine sl_istore Cx dL_law_1195 (Nat.le_of_ble_eq_true rfl) rfl ?_
  refine sl_aload_n Cx dL_law_1197 rfl ?_
  refine sl_aload_n Cx dL_law_1198 rfl ?_
  refine sl_iload Cx dL_law_1199 rfl ?_
  refine sl_iconst Cx (v := nI 1) dL_law_1201 (by decide) ?_
  refine sl_iadd Cx (z := nI (i + 1)) dL_law_1202 (nI_add _ _) ?_
  refine sl_sld Cx hS hbl hbA hL dL_law_1203 (n := (i + 1)) rfl (by omega) ?_
  refine sl_aload_n Cx dL_law_1204 rfl ?_
  refine sl_iload Cx dL_law_1205 rfl ?_
  refine sl_iconst Cx (v := nI 2) dL_law_1207 (by decide) ?_
  refine sl_iadd Cx (z := nI (i + 2)) dL_law_1208 (nI_add _ _) ?_
  refine sl_sld Cx hS hbl hbA hL dL_law_1209 (n := (i + 2)) rfl (by omega) ?_
  refine sl_callV Cx dL_law_1210 hX8_cork kRL_169 (hhm σ1 g1 (a + 411) hD1 hm1) rfl rfl hD1.1 rfl (by decide) (Nat.le_of_ble_eq_true rfl) (by show kc + 1 + 0 ≤ 601024; omega) (by show ks + 6 + 0 ≤ 7293034; omega) (fun v σ2 g2 h2 => ?_)
  obtain ⟨z, rfl, rfl, z1, z2, z3, z4⟩ := h2
  refine sl_istore Cx dL_law_1213 (Nat.le_of_ble_eq_true rfl) rfl ?_
  refine sl_aload_n Cx dL_law_1215 rfl ?_
  refine sl_callV Cx dL_law_1216 hX8_thrown kRL_110 (m_X8_thrown (a + 411) hD1) rfl rfl hD1.1 rfl (by decide) (Nat.le_of_ble_eq_true rfl) (by show kc + 1 + 0 + 0 ≤ 601024; omega) (by show ks + 6 + 0 + 0 ≤ 7293034; omega) (fun v σ3 g3 h3 => ?_)
  obtain ⟨rfl, rfl, rfl⟩ := h3
  refine sl_iload Cx dL_law_1219 rfl ?_
  refine sl_icmp_eq Cx (tgt := 1226) dL_law_1221 (by decide) (fun _ => ?_) (fun q => absurd z2 q)
  refine sl_iload Cx dL_law_1226 rfl ?_
  refine sl_if_ne Cx (tgt := 1243) dL_law_1228 (by decide) (fun _ => ?_) (fun q => ?_)
  · refine sl_goto Cx (tgt := 1931) dL_law_1243 (by decide) ?_
    refine sl_drop (L' := [some (.ref b0), some (.ref a), some (.ref (a + 411)), some (.ref (a + 422)), some (.int (nI (i))), none, none]) (ce_le_s rfl (ce_le_s rfl (ce_le_s rfl (ce_le_s rfl (ce_le_s rfl (ce_le_n (ce_le_n ce_le_e))))))) ?_
    exact cont _ _ _ (iv_2 k3 hD1 hw1 z3 z4 iv2)
  · have hR0 : R = 0 := (nI_eq (by omega) (by decide)).mp (q.trans nI_0.symm)
    refine sl_aload_n Cx dL_law_1231 rfl ?_
    refine sl_iconst Cx (v := nI 0) dL_law_1232 (by decide) ?_
    refine sl_lald Cx (n := 0) (len := 1) dL_law_1233 hw1.1 rfl hw1.2 (by decide) (by decide) ?_
    refine sl_iload Cx dL_law_1234 rfl ?_
    refine sl_i2l Cx (v := z.toInt64) dL_law_1236 rfl ?_
    refine sl_lcmp Cx dL_law_1237 rfl ?_
    refine sl_if_eq Cx (tgt := 1243) dL_law_1238 (by decide) (fun _ => ?_) (fun q2 => absurd (ce_lg_lt.2.1.mpr (by rw [k2 hR0, z1 hR0])) q2)
    refine sl_goto Cx (tgt := 1931) dL_law_1243 (by decide) ?_
    refine sl_drop (L' := [some (.ref b0), some (.ref a), some (.ref (a + 411)), some (.ref (a + 422)), some (.int (nI (i))), none, none]) (ce_le_s rfl (ce_le_s rfl (ce_le_s rfl (ce_le_s rfl (ce_le_s rfl (ce_le_n (ce_le_n ce_le_e))))))) ?_
    exact cont _ _ _ (iv_2 k3 hD1 hw1 z3 z4 iv2)
set_option maxHeartbeats 2000000 in
set_option maxRecDepth 20000 in
theorem c_18 {G : ce_G} {A : Nat → Prop} {p : Program} {e : Env} {s : State} {m : MethodId} {args : Array Value} {below : List Frame} {meth : Method} {c : Code} {Z : State → Prop} {b0 L0 : Nat} {xs : Nat → Int32} (Cx : ce_CL G A p s m args meth c) (hS : va_X b0 L0 xs s s.heap) (hbl : b0 < s.heap.size) (hbA : ¬ A b0) (hL : L0 ≤ 100000) {a i kc ks : Nat} (hi : i + 5 ≤ L0) (hc : kc ≤ 601000) (hs9 : ks ≤ 7290000) {σ : ce_S} {g : ce_D} {S : ks_S} (iv : sl_iv σ g a S) (cont : ∀ σ' g' S', sl_iv σ' g' a S' → ce_WL G A p e s m args below meth c Z room_1 (kc + 1) (ks + 6) 1931 [some (.ref b0), some (.ref a), some (.ref (a + 411)), some (.ref (a + 422)), some (.int (nI (i))), none, none] [] σ' g') : ce_WL G A p e s m args below meth c Z room_1 kc ks 1246 [some (.ref b0), some (.ref a), some (.ref (a + 411)), some (.ref (a + 422)), some (.int (nI (i))), none, none] [] σ g := by
  obtain ⟨⟨b, hX, hr⟩, hD, hw, hm, iv⟩ := iv
  have h14 : sn S ≤ 14 := hr.2.1.1
  obtain ⟨R, V, S2, hR, iv2, hh, hhm⟩ := b_move iv h14 (xs (i + 1)) (xs (i + 2)) (xs (i + 3))
  refine sl_aload_n Cx dL_law_1246 rfl ?_
  refine sl_aload_n Cx dL_law_1247 rfl ?_
  refine sl_iload Cx dL_law_1248 rfl ?_
  refine sl_iconst Cx (v := nI 1) dL_law_1250 (by decide) ?_
  refine sl_iadd Cx (z := nI (i + 1)) dL_law_1251 (nI_add _ _) ?_
  refine sl_sld Cx hS hbl hbA hL dL_law_1252 (n := (i + 1)) rfl (by omega) ?_
  refine sl_aload_n Cx dL_law_1253 rfl ?_
  refine sl_iload Cx dL_law_1254 rfl ?_
  refine sl_iconst Cx (v := nI 2) dL_law_1256 (by decide) ?_
  refine sl_iadd Cx (z := nI (i + 2)) dL_law_1257 (nI_add _ _) ?_
  refine sl_sld Cx hS hbl hbA hL dL_law_1258 (n := (i + 2)) rfl (by omega) ?_
  refine sl_aload_n Cx dL_law_1259 rfl ?_
  refine sl_iload Cx dL_law_1260 rfl ?_
  refine sl_iconst Cx (v := nI 3) dL_law_1262 (by decide) ?_
  refine sl_iadd Cx (z := nI (i + 3)) dL_law_1263 (nI_add _ _) ?_
  refine sl_sld Cx hS hbl hbA hL dL_law_1264 (n := (i + 3)) rfl (by omega) ?_
  refine sl_aload_n Cx dL_law_1265 rfl ?_
  refine sl_callSW Cx dL_law_1266 hL_move kRL_170 (hh σ g a (a + 422) b hX hw hr) rfl rfl (by decide) (Nat.le_of_ble_eq_true rfl) (by show kc + 1 ≤ 601024; omega) (by show ks + 6 ≤ 7293034; omega) (fun v σ1 g1 h1 => ?_)
  obtain ⟨rfl, k1, k2, k3, k4⟩ := h1
  obtain ⟨hD1, hw1, hm1⟩ := iv_1 hD hw hm k1 k4
  refine sl_istore Cx dL_law_1269 (Nat.le_of_ble_eq_true rfl) rfl ?_
  refine sl_aload_n Cx dL_law_1271 rfl ?_
  refine sl_aload_n Cx dL_law_1272 rfl ?_
  refine sl_iload Cx dL_law_1273 rfl ?_
  refine sl_iconst Cx (v := nI 1) dL_law_1275 (by decide) ?_
  refine sl_iadd Cx (z := nI (i + 1)) dL_law_1276 (nI_add _ _) ?_
  refine sl_sld Cx hS hbl hbA hL dL_law_1277 (n := (i + 1)) rfl (by omega) ?_
  refine sl_aload_n Cx dL_law_1278 rfl ?_
  refine sl_iload Cx dL_law_1279 rfl ?_
  refine sl_iconst Cx (v := nI 2) dL_law_1281 (by decide) ?_
  refine sl_iadd Cx (z := nI (i + 2)) dL_law_1282 (nI_add _ _) ?_
  refine sl_sld Cx hS hbl hbA hL dL_law_1283 (n := (i + 2)) rfl (by omega) ?_
  refine sl_aload_n Cx dL_law_1284 rfl ?_
  refine sl_iload Cx dL_law_1285 rfl ?_
  refine sl_iconst Cx (v := nI 3) dL_law_1287 (by decide) ?_
  refine sl_iadd Cx (z := nI (i + 3)) dL_law_1288 (nI_add _ _) ?_
  refine sl_sld Cx hS hbl hbA hL dL_law_1289 (n := (i + 3)) rfl (by omega) ?_
  refine sl_callV Cx dL_law_1290 hX8_move kRL_172 (hhm σ1 g1 (a + 411) hD1 hm1) rfl rfl hD1.1 rfl (by decide) (Nat.le_of_ble_eq_true rfl) (by show kc + 1 + 0 ≤ 601024; omega) (by show ks + 6 + 0 ≤ 7293034; omega) (fun v σ2 g2 h2 => ?_)
  obtain ⟨z, rfl, rfl, z1, z2, z3, z4⟩ := h2
  refine sl_istore Cx dL_law_1293 (Nat.le_of_ble_eq_true rfl) rfl ?_
  refine sl_aload_n Cx dL_law_1295 rfl ?_
  refine sl_callV Cx dL_law_1296 hX8_thrown kRL_110 (m_X8_thrown (a + 411) hD1) rfl rfl hD1.1 rfl (by decide) (Nat.le_of_ble_eq_true rfl) (by show kc + 1 + 0 + 0 ≤ 601024; omega) (by show ks + 6 + 0 + 0 ≤ 7293034; omega) (fun v σ3 g3 h3 => ?_)
  obtain ⟨rfl, rfl, rfl⟩ := h3
  refine sl_iload Cx dL_law_1299 rfl ?_
  refine sl_icmp_eq Cx (tgt := 1306) dL_law_1301 (by decide) (fun _ => ?_) (fun q => absurd z2 q)
  refine sl_iload Cx dL_law_1306 rfl ?_
  refine sl_if_ne Cx (tgt := 1323) dL_law_1308 (by decide) (fun _ => ?_) (fun q => ?_)
  · refine sl_goto Cx (tgt := 1931) dL_law_1323 (by decide) ?_
    refine sl_drop (L' := [some (.ref b0), some (.ref a), some (.ref (a + 411)), some (.ref (a + 422)), some (.int (nI (i))), none, none]) (ce_le_s rfl (ce_le_s rfl (ce_le_s rfl (ce_le_s rfl (ce_le_s rfl (ce_le_n (ce_le_n ce_le_e))))))) ?_
    exact cont _ _ _ (iv_2 k3 hD1 hw1 z3 z4 iv2)
  · have hR0 : R = 0 := (nI_eq (by omega) (by decide)).mp (q.trans nI_0.symm)
    refine sl_aload_n Cx dL_law_1311 rfl ?_
    refine sl_iconst Cx (v := nI 0) dL_law_1312 (by decide) ?_
    refine sl_lald Cx (n := 0) (len := 1) dL_law_1313 hw1.1 rfl hw1.2 (by decide) (by decide) ?_
    refine sl_iload Cx dL_law_1314 rfl ?_
    refine sl_i2l Cx (v := z.toInt64) dL_law_1316 rfl ?_
    refine sl_lcmp Cx dL_law_1317 rfl ?_
    refine sl_if_eq Cx (tgt := 1323) dL_law_1318 (by decide) (fun _ => ?_) (fun q2 => absurd (ce_lg_lt.2.1.mpr (by rw [k2 hR0, z1 hR0])) q2)
    refine sl_goto Cx (tgt := 1931) dL_law_1323 (by decide) ?_
    refine sl_drop (L' := [some (.ref b0), some (.ref a), some (.ref (a + 411)), some (.ref (a + 422)), some (.int (nI (i))), none, none]) (ce_le_s rfl (ce_le_s rfl (ce_le_s rfl (ce_le_s rfl (ce_le_s rfl (ce_le_n (ce_le_n ce_le_e))))))) ?_
    exact cont _ _ _ (iv_2 k3 hD1 hw1 z3 z4 iv2)
set_option maxHeartbeats 2000000 in
set_option maxRecDepth 20000 in
theorem c_19 {G : ce_G} {A : Nat → Prop} {p : Program} {e : Env} {s : State} {m : MethodId} {args : Array Value} {below : List Frame} {meth : Method} {c : Code} {Z : State → Prop} {b0 L0 : Nat} {xs : Nat → Int32} (Cx : ce_CL G A p s m args meth c) (hS : va_X b0 L0 xs s s.heap) (hbl : b0 < s.heap.size) (hbA : ¬ A b0) (hL : L0 ≤ 100000) {a i kc ks : Nat} (hi : i + 5 ≤ L0) (hc : kc ≤ 601000) (hs9 : ks ≤ 7290000) {σ : ce_S} {g : ce_D} {S : ks_S} (iv : sl_iv σ g a S) (cont : ∀ σ' g' S', sl_iv σ' g' a S' → ce_WL G A p e s m args below meth c Z room_1 (kc + 1) (ks + 6) 1931 [some (.ref b0), some (.ref a), some (.ref (a + 411)), some (.ref (a + 422)), some (.int (nI (i))), none, none] [] σ' g') : ce_WL G A p e s m args below meth c Z room_1 kc ks 1326 [some (.ref b0), some (.ref a), some (.ref (a + 411)), some (.ref (a + 422)), some (.int (nI (i))), none, none] [] σ g := by
  obtain ⟨⟨b, hX, hr⟩, hD, hw, hm, iv⟩ := iv
  have h14 : sn S ≤ 14 := hr.2.1.1
  obtain ⟨R, V, S2, hR, iv2, hh, hhm⟩ := b_pay iv h14 (xs (i + 1))
  refine sl_aload_n Cx dL_law_1326 rfl ?_
  refine sl_aload_n Cx dL_law_1327 rfl ?_
  refine sl_iload Cx dL_law_1328 rfl ?_
  refine sl_iconst Cx (v := nI 1) dL_law_1330 (by decide) ?_
  refine sl_iadd Cx (z := nI (i + 1)) dL_law_1331 (nI_add _ _) ?_
  refine sl_sld Cx hS hbl hbA hL dL_law_1332 (n := (i + 1)) rfl (by omega) ?_
  refine sl_aload_n Cx dL_law_1333 rfl ?_
  refine sl_callSW Cx dL_law_1334 hL_pay kRL_173 (hh σ g a (a + 422) b hX hw hr) rfl rfl (by decide) (Nat.le_of_ble_eq_true rfl) (by show kc + 1 ≤ 601024; omega) (by show ks + 6 ≤ 7293034; omega) (fun v σ1 g1 h1 => ?_)
  obtain ⟨rfl, k1, k2, k3, k4⟩ := h1
  obtain ⟨hD1, hw1, hm1⟩ := iv_1 hD hw hm k1 k4
  refine sl_istore Cx dL_law_1337 (Nat.le_of_ble_eq_true rfl) rfl ?_
  refine sl_aload_n Cx dL_law_1339 rfl ?_
  refine sl_aload_n Cx dL_law_1340 rfl ?_
  refine sl_iload Cx dL_law_1341 rfl ?_
  refine sl_iconst Cx (v := nI 1) dL_law_1343 (by decide) ?_
  refine sl_iadd Cx (z := nI (i + 1)) dL_law_1344 (nI_add _ _) ?_
  refine sl_sld Cx hS hbl hbA hL dL_law_1345 (n := (i + 1)) rfl (by omega) ?_
  refine sl_callV Cx dL_law_1346 hX8_pay kRL_175 (hhm σ1 g1 (a + 411) hD1 hm1) rfl rfl hD1.1 rfl (by decide) (Nat.le_of_ble_eq_true rfl) (by show kc + 1 + 0 ≤ 601024; omega) (by show ks + 6 + 0 ≤ 7293034; omega) (fun v σ2 g2 h2 => ?_)
  obtain ⟨z, rfl, rfl, z1, z2, z3, z4⟩ := h2
  refine sl_istore Cx dL_law_1349 (Nat.le_of_ble_eq_true rfl) rfl ?_
  refine sl_aload_n Cx dL_law_1351 rfl ?_
  refine sl_callV Cx dL_law_1352 hX8_thrown kRL_110 (m_X8_thrown (a + 411) hD1) rfl rfl hD1.1 rfl (by decide) (Nat.le_of_ble_eq_true rfl) (by show kc + 1 + 0 + 0 ≤ 601024; omega) (by show ks + 6 + 0 + 0 ≤ 7293034; omega) (fun v σ3 g3 h3 => ?_)
  obtain ⟨rfl, rfl, rfl⟩ := h3
  refine sl_iload Cx dL_law_1355 rfl ?_
  refine sl_icmp_eq Cx (tgt := 1362) dL_law_1357 (by decide) (fun _ => ?_) (fun q => absurd z2 q)
  refine sl_iload Cx dL_law_1362 rfl ?_
  refine sl_if_ne Cx (tgt := 1379) dL_law_1364 (by decide) (fun _ => ?_) (fun q => ?_)
  · refine sl_goto Cx (tgt := 1931) dL_law_1379 (by decide) ?_
    refine sl_drop (L' := [some (.ref b0), some (.ref a), some (.ref (a + 411)), some (.ref (a + 422)), some (.int (nI (i))), none, none]) (ce_le_s rfl (ce_le_s rfl (ce_le_s rfl (ce_le_s rfl (ce_le_s rfl (ce_le_n (ce_le_n ce_le_e))))))) ?_
    exact cont _ _ _ (iv_2 k3 hD1 hw1 z3 z4 iv2)
  · have hR0 : R = 0 := (nI_eq (by omega) (by decide)).mp (q.trans nI_0.symm)
    refine sl_aload_n Cx dL_law_1367 rfl ?_
    refine sl_iconst Cx (v := nI 0) dL_law_1368 (by decide) ?_
    refine sl_lald Cx (n := 0) (len := 1) dL_law_1369 hw1.1 rfl hw1.2 (by decide) (by decide) ?_
    refine sl_iload Cx dL_law_1370 rfl ?_
    refine sl_i2l Cx (v := z.toInt64) dL_law_1372 rfl ?_
    refine sl_lcmp Cx dL_law_1373 rfl ?_
    refine sl_if_eq Cx (tgt := 1379) dL_law_1374 (by decide) (fun _ => ?_) (fun q2 => absurd (ce_lg_lt.2.1.mpr (by rw [k2 hR0, z1 hR0])) q2)
    refine sl_goto Cx (tgt := 1931) dL_law_1379 (by decide) ?_
    refine sl_drop (L' := [some (.ref b0), some (.ref a), some (.ref (a + 411)), some (.ref (a + 422)), some (.int (nI (i))), none, none]) (ce_le_s rfl (ce_le_s rfl (ce_le_s rfl (ce_le_s rfl (ce_le_s rfl (ce_le_n (ce_le_n ce_le_e))))))) ?_
    exact cont _ _ _ (iv_2 k3 hD1 hw1 z3 z4 iv2)
set_option maxHeartbeats 2000000 in
set_option maxRecDepth 20000 in
theorem c_20 {G : ce_G} {A : Nat → Prop} {p : Program} {e : Env} {s : State} {m : MethodId} {args : Array Value} {below : List Frame} {meth : Method} {c : Code} {Z : State → Prop} {b0 L0 : Nat} {xs : Nat → Int32} (Cx : ce_CL G A p s m args meth c) (hS : va_X b0 L0 xs s s.heap) (hbl : b0 < s.heap.size) (hbA : ¬ A b0) (hL : L0 ≤ 100000) {a i kc ks : Nat} (hi : i + 5 ≤ L0) (hc : kc ≤ 601000) (hs9 : ks ≤ 7290000) {σ : ce_S} {g : ce_D} {S : ks_S} (iv : sl_iv σ g a S) (cont : ∀ σ' g' S', sl_iv σ' g' a S' → ce_WL G A p e s m args below meth c Z room_1 (kc + 1) (ks + 6) 1931 [some (.ref b0), some (.ref a), some (.ref (a + 411)), some (.ref (a + 422)), some (.int (nI (i))), none, none] [] σ' g') : ce_WL G A p e s m args below meth c Z room_1 kc ks 1382 [some (.ref b0), some (.ref a), some (.ref (a + 411)), some (.ref (a + 422)), some (.int (nI (i))), none, none] [] σ g := by
  obtain ⟨⟨b, hX, hr⟩, hD, hw, hm, iv⟩ := iv
  have h14 : sn S ≤ 14 := hr.2.1.1
  obtain ⟨R, V, S2, hR, iv2, hh, hhm⟩ := b_undo iv h14
  refine sl_aload_n Cx dL_law_1382 rfl ?_
  refine sl_aload_n Cx dL_law_1383 rfl ?_
  refine sl_callSW Cx dL_law_1384 hL_undo kRL_176 (hh σ g a (a + 422) b hX hw hr) rfl rfl (by decide) (Nat.le_of_ble_eq_true rfl) (by show kc + 1 ≤ 601024; omega) (by show ks + 6 ≤ 7293034; omega) (fun v σ1 g1 h1 => ?_)
  obtain ⟨rfl, k1, k2, k3, k4⟩ := h1
  obtain ⟨hD1, hw1, hm1⟩ := iv_1 hD hw hm k1 k4
  refine sl_istore Cx dL_law_1387 (Nat.le_of_ble_eq_true rfl) rfl ?_
  refine sl_aload_n Cx dL_law_1389 rfl ?_
  refine sl_callV Cx dL_law_1390 hX8_undo kRL_178 (hhm σ1 g1 (a + 411) hD1 hm1) rfl rfl hD1.1 rfl (by decide) (Nat.le_of_ble_eq_true rfl) (by show kc + 1 + 0 ≤ 601024; omega) (by show ks + 6 + 0 ≤ 7293034; omega) (fun v σ2 g2 h2 => ?_)
  obtain ⟨z, rfl, rfl, z1, z2, z3, z4⟩ := h2
  refine sl_istore Cx dL_law_1393 (Nat.le_of_ble_eq_true rfl) rfl ?_
  refine sl_aload_n Cx dL_law_1395 rfl ?_
  refine sl_callV Cx dL_law_1396 hX8_thrown kRL_110 (m_X8_thrown (a + 411) hD1) rfl rfl hD1.1 rfl (by decide) (Nat.le_of_ble_eq_true rfl) (by show kc + 1 + 0 + 0 ≤ 601024; omega) (by show ks + 6 + 0 + 0 ≤ 7293034; omega) (fun v σ3 g3 h3 => ?_)
  obtain ⟨rfl, rfl, rfl⟩ := h3
  refine sl_iload Cx dL_law_1399 rfl ?_
  refine sl_icmp_eq Cx (tgt := 1406) dL_law_1401 (by decide) (fun _ => ?_) (fun q => absurd z2 q)
  refine sl_iload Cx dL_law_1406 rfl ?_
  refine sl_if_ne Cx (tgt := 1423) dL_law_1408 (by decide) (fun _ => ?_) (fun q => ?_)
  · refine sl_goto Cx (tgt := 1931) dL_law_1423 (by decide) ?_
    refine sl_drop (L' := [some (.ref b0), some (.ref a), some (.ref (a + 411)), some (.ref (a + 422)), some (.int (nI (i))), none, none]) (ce_le_s rfl (ce_le_s rfl (ce_le_s rfl (ce_le_s rfl (ce_le_s rfl (ce_le_n (ce_le_n ce_le_e))))))) ?_
    exact cont _ _ _ (iv_2 k3 hD1 hw1 z3 z4 iv2)
  · have hR0 : R = 0 := (nI_eq (by omega) (by decide)).mp (q.trans nI_0.symm)
    refine sl_aload_n Cx dL_law_1411 rfl ?_
    refine sl_iconst Cx (v := nI 0) dL_law_1412 (by decide) ?_
    refine sl_lald Cx (n := 0) (len := 1) dL_law_1413 hw1.1 rfl hw1.2 (by decide) (by decide) ?_
    refine sl_iload Cx dL_law_1414 rfl ?_
    refine sl_i2l Cx (v := z.toInt64) dL_law_1416 rfl ?_
    refine sl_lcmp Cx dL_law_1417 rfl ?_
    refine sl_if_eq Cx (tgt := 1423) dL_law_1418 (by decide) (fun _ => ?_) (fun q2 => absurd (ce_lg_lt.2.1.mpr (by rw [k2 hR0, z1 hR0])) q2)
    refine sl_goto Cx (tgt := 1931) dL_law_1423 (by decide) ?_
    refine sl_drop (L' := [some (.ref b0), some (.ref a), some (.ref (a + 411)), some (.ref (a + 422)), some (.int (nI (i))), none, none]) (ce_le_s rfl (ce_le_s rfl (ce_le_s rfl (ce_le_s rfl (ce_le_s rfl (ce_le_n (ce_le_n ce_le_e))))))) ?_
    exact cont _ _ _ (iv_2 k3 hD1 hw1 z3 z4 iv2)
set_option maxHeartbeats 2000000 in
set_option maxRecDepth 20000 in
theorem c_21 {G : ce_G} {A : Nat → Prop} {p : Program} {e : Env} {s : State} {m : MethodId} {args : Array Value} {below : List Frame} {meth : Method} {c : Code} {Z : State → Prop} {b0 L0 : Nat} {xs : Nat → Int32} (Cx : ce_CL G A p s m args meth c) (hS : va_X b0 L0 xs s s.heap) (hbl : b0 < s.heap.size) (hbA : ¬ A b0) (hL : L0 ≤ 100000) {a i kc ks : Nat} (hi : i + 5 ≤ L0) (hc : kc ≤ 601000) (hs9 : ks ≤ 7290000) {σ : ce_S} {g : ce_D} {S : ks_S} (iv : sl_iv σ g a S) (cont : ∀ σ' g' S', sl_iv σ' g' a S' → ce_WL G A p e s m args below meth c Z room_1 (kc + 1) (ks + 6) 1931 [some (.ref b0), some (.ref a), some (.ref (a + 411)), some (.ref (a + 422)), some (.int (nI (i))), none, none] [] σ' g') : ce_WL G A p e s m args below meth c Z room_1 kc ks 1426 [some (.ref b0), some (.ref a), some (.ref (a + 411)), some (.ref (a + 422)), some (.int (nI (i))), none, none] [] σ g := by
  obtain ⟨⟨b, hX, hr⟩, hD, hw, hm, iv⟩ := iv
  have h14 : sn S ≤ 14 := hr.2.1.1
  obtain ⟨R, V, S2, hR, iv2, hh, hhm⟩ := b_wouldGet iv h14 (xs (i + 1)) (xs (i + 2))
  refine sl_aload_n Cx dL_law_1426 rfl ?_
  refine sl_aload_n Cx dL_law_1427 rfl ?_
  refine sl_iload Cx dL_law_1428 rfl ?_
  refine sl_iconst Cx (v := nI 1) dL_law_1430 (by decide) ?_
  refine sl_iadd Cx (z := nI (i + 1)) dL_law_1431 (nI_add _ _) ?_
  refine sl_sld Cx hS hbl hbA hL dL_law_1432 (n := (i + 1)) rfl (by omega) ?_
  refine sl_aload_n Cx dL_law_1433 rfl ?_
  refine sl_iload Cx dL_law_1434 rfl ?_
  refine sl_iconst Cx (v := nI 2) dL_law_1436 (by decide) ?_
  refine sl_iadd Cx (z := nI (i + 2)) dL_law_1437 (nI_add _ _) ?_
  refine sl_sld Cx hS hbl hbA hL dL_law_1438 (n := (i + 2)) rfl (by omega) ?_
  refine sl_aload_n Cx dL_law_1439 rfl ?_
  refine sl_callSW Cx dL_law_1440 hL_wouldGet kRL_179 (hh σ g a (a + 422) b hX hw hr) rfl rfl (by decide) (Nat.le_of_ble_eq_true rfl) (by show kc + 1 ≤ 601024; omega) (by show ks + 6 ≤ 7293034; omega) (fun v σ1 g1 h1 => ?_)
  obtain ⟨rfl, k1, k2, k3, k4⟩ := h1
  obtain ⟨hD1, hw1, hm1⟩ := iv_1 hD hw hm k1 k4
  refine sl_istore Cx dL_law_1443 (Nat.le_of_ble_eq_true rfl) rfl ?_
  refine sl_aload_n Cx dL_law_1445 rfl ?_
  refine sl_aload_n Cx dL_law_1446 rfl ?_
  refine sl_iload Cx dL_law_1447 rfl ?_
  refine sl_iconst Cx (v := nI 1) dL_law_1449 (by decide) ?_
  refine sl_iadd Cx (z := nI (i + 1)) dL_law_1450 (nI_add _ _) ?_
  refine sl_sld Cx hS hbl hbA hL dL_law_1451 (n := (i + 1)) rfl (by omega) ?_
  refine sl_aload_n Cx dL_law_1452 rfl ?_
  refine sl_iload Cx dL_law_1453 rfl ?_
  refine sl_iconst Cx (v := nI 2) dL_law_1455 (by decide) ?_
  refine sl_iadd Cx (z := nI (i + 2)) dL_law_1456 (nI_add _ _) ?_
  refine sl_sld Cx hS hbl hbA hL dL_law_1457 (n := (i + 2)) rfl (by omega) ?_
  refine sl_callV Cx dL_law_1458 hX8_wouldGet kRL_181 (hhm σ1 g1 (a + 411) hD1 hm1) rfl rfl hD1.1 rfl (by decide) (Nat.le_of_ble_eq_true rfl) (by show kc + 1 + 0 ≤ 601024; omega) (by show ks + 6 + 0 ≤ 7293034; omega) (fun v σ2 g2 h2 => ?_)
  obtain ⟨z, rfl, rfl, z1, z2, z3, z4⟩ := h2
  refine sl_istore Cx dL_law_1461 (Nat.le_of_ble_eq_true rfl) rfl ?_
  refine sl_aload_n Cx dL_law_1463 rfl ?_
  refine sl_callV Cx dL_law_1464 hX8_thrown kRL_110 (m_X8_thrown (a + 411) hD1) rfl rfl hD1.1 rfl (by decide) (Nat.le_of_ble_eq_true rfl) (by show kc + 1 + 0 + 0 ≤ 601024; omega) (by show ks + 6 + 0 + 0 ≤ 7293034; omega) (fun v σ3 g3 h3 => ?_)
  obtain ⟨rfl, rfl, rfl⟩ := h3
  refine sl_iload Cx dL_law_1467 rfl ?_
  refine sl_icmp_eq Cx (tgt := 1474) dL_law_1469 (by decide) (fun _ => ?_) (fun q => absurd z2 q)
  refine sl_iload Cx dL_law_1474 rfl ?_
  refine sl_if_ne Cx (tgt := 1491) dL_law_1476 (by decide) (fun _ => ?_) (fun q => ?_)
  · refine sl_goto Cx (tgt := 1931) dL_law_1491 (by decide) ?_
    refine sl_drop (L' := [some (.ref b0), some (.ref a), some (.ref (a + 411)), some (.ref (a + 422)), some (.int (nI (i))), none, none]) (ce_le_s rfl (ce_le_s rfl (ce_le_s rfl (ce_le_s rfl (ce_le_s rfl (ce_le_n (ce_le_n ce_le_e))))))) ?_
    exact cont _ _ _ (iv_2 k3 hD1 hw1 z3 z4 iv2)
  · have hR0 : R = 0 := (nI_eq (by omega) (by decide)).mp (q.trans nI_0.symm)
    refine sl_aload_n Cx dL_law_1479 rfl ?_
    refine sl_iconst Cx (v := nI 0) dL_law_1480 (by decide) ?_
    refine sl_lald Cx (n := 0) (len := 1) dL_law_1481 hw1.1 rfl hw1.2 (by decide) (by decide) ?_
    refine sl_iload Cx dL_law_1482 rfl ?_
    refine sl_i2l Cx (v := z.toInt64) dL_law_1484 rfl ?_
    refine sl_lcmp Cx dL_law_1485 rfl ?_
    refine sl_if_eq Cx (tgt := 1491) dL_law_1486 (by decide) (fun _ => ?_) (fun q2 => absurd (ce_lg_lt.2.1.mpr (by rw [k2 hR0, z1 hR0])) q2)
    refine sl_goto Cx (tgt := 1931) dL_law_1491 (by decide) ?_
    refine sl_drop (L' := [some (.ref b0), some (.ref a), some (.ref (a + 411)), some (.ref (a + 422)), some (.int (nI (i))), none, none]) (ce_le_s rfl (ce_le_s rfl (ce_le_s rfl (ce_le_s rfl (ce_le_s rfl (ce_le_n (ce_le_n ce_le_e))))))) ?_
    exact cont _ _ _ (iv_2 k3 hD1 hw1 z3 z4 iv2)
set_option maxHeartbeats 2000000 in
set_option maxRecDepth 20000 in
theorem c_22 {G : ce_G} {A : Nat → Prop} {p : Program} {e : Env} {s : State} {m : MethodId} {args : Array Value} {below : List Frame} {meth : Method} {c : Code} {Z : State → Prop} {b0 L0 : Nat} {xs : Nat → Int32} (Cx : ce_CL G A p s m args meth c) (hS : va_X b0 L0 xs s s.heap) (hbl : b0 < s.heap.size) (hbA : ¬ A b0) (hL : L0 ≤ 100000) {a i kc ks : Nat} (hi : i + 5 ≤ L0) (hc : kc ≤ 601000) (hs9 : ks ≤ 7290000) {σ : ce_S} {g : ce_D} {S : ks_S} (iv : sl_iv σ g a S) (cont : ∀ σ' g' S', sl_iv σ' g' a S' → ce_WL G A p e s m args below meth c Z room_1 (kc + 1) (ks + 6) 1931 [some (.ref b0), some (.ref a), some (.ref (a + 411)), some (.ref (a + 422)), some (.int (nI (i))), none, none] [] σ' g') : ce_WL G A p e s m args below meth c Z room_1 kc ks 1494 [some (.ref b0), some (.ref a), some (.ref (a + 411)), some (.ref (a + 422)), some (.int (nI (i))), none, none] [] σ g := by
  obtain ⟨⟨b, hX, hr⟩, hD, hw, hm, iv⟩ := iv
  have h14 : sn S ≤ 14 := hr.2.1.1
  obtain ⟨R, V, S2, hR, iv2, hh, hhm⟩ := b_roomFor iv h14 (xs (i + 1))
  refine sl_aload_n Cx dL_law_1494 rfl ?_
  refine sl_aload_n Cx dL_law_1495 rfl ?_
  refine sl_iload Cx dL_law_1496 rfl ?_
  refine sl_iconst Cx (v := nI 1) dL_law_1498 (by decide) ?_
  refine sl_iadd Cx (z := nI (i + 1)) dL_law_1499 (nI_add _ _) ?_
  refine sl_sld Cx hS hbl hbA hL dL_law_1500 (n := (i + 1)) rfl (by omega) ?_
  refine sl_aload_n Cx dL_law_1501 rfl ?_
  refine sl_callSW Cx dL_law_1502 hL_roomFor kRL_182 (hh σ g a (a + 422) b hX hw hr) rfl rfl (by decide) (Nat.le_of_ble_eq_true rfl) (by show kc + 1 ≤ 601024; omega) (by show ks + 6 ≤ 7293034; omega) (fun v σ1 g1 h1 => ?_)
  obtain ⟨rfl, k1, k2, k3, k4⟩ := h1
  obtain ⟨hD1, hw1, hm1⟩ := iv_1 hD hw hm k1 k4
  refine sl_istore Cx dL_law_1505 (Nat.le_of_ble_eq_true rfl) rfl ?_
  refine sl_aload_n Cx dL_law_1507 rfl ?_
  refine sl_aload_n Cx dL_law_1508 rfl ?_
  refine sl_iload Cx dL_law_1509 rfl ?_
  refine sl_iconst Cx (v := nI 1) dL_law_1511 (by decide) ?_
  refine sl_iadd Cx (z := nI (i + 1)) dL_law_1512 (nI_add _ _) ?_
  refine sl_sld Cx hS hbl hbA hL dL_law_1513 (n := (i + 1)) rfl (by omega) ?_
  refine sl_callV Cx dL_law_1514 hX8_roomFor kRL_184 (hhm σ1 g1 (a + 411) hD1 hm1) rfl rfl hD1.1 rfl (by decide) (Nat.le_of_ble_eq_true rfl) (by show kc + 1 + 0 ≤ 601024; omega) (by show ks + 6 + 0 ≤ 7293034; omega) (fun v σ2 g2 h2 => ?_)
  obtain ⟨z, rfl, rfl, z1, z2, z3, z4⟩ := h2
  refine sl_istore Cx dL_law_1517 (Nat.le_of_ble_eq_true rfl) rfl ?_
  refine sl_aload_n Cx dL_law_1519 rfl ?_
  refine sl_callV Cx dL_law_1520 hX8_thrown kRL_110 (m_X8_thrown (a + 411) hD1) rfl rfl hD1.1 rfl (by decide) (Nat.le_of_ble_eq_true rfl) (by show kc + 1 + 0 + 0 ≤ 601024; omega) (by show ks + 6 + 0 + 0 ≤ 7293034; omega) (fun v σ3 g3 h3 => ?_)
  obtain ⟨rfl, rfl, rfl⟩ := h3
  refine sl_iload Cx dL_law_1523 rfl ?_
  refine sl_icmp_eq Cx (tgt := 1530) dL_law_1525 (by decide) (fun _ => ?_) (fun q => absurd z2 q)
  refine sl_iload Cx dL_law_1530 rfl ?_
  refine sl_if_ne Cx (tgt := 1547) dL_law_1532 (by decide) (fun _ => ?_) (fun q => ?_)
  · refine sl_goto Cx (tgt := 1931) dL_law_1547 (by decide) ?_
    refine sl_drop (L' := [some (.ref b0), some (.ref a), some (.ref (a + 411)), some (.ref (a + 422)), some (.int (nI (i))), none, none]) (ce_le_s rfl (ce_le_s rfl (ce_le_s rfl (ce_le_s rfl (ce_le_s rfl (ce_le_n (ce_le_n ce_le_e))))))) ?_
    exact cont _ _ _ (iv_2 k3 hD1 hw1 z3 z4 iv2)
  · have hR0 : R = 0 := (nI_eq (by omega) (by decide)).mp (q.trans nI_0.symm)
    refine sl_aload_n Cx dL_law_1535 rfl ?_
    refine sl_iconst Cx (v := nI 0) dL_law_1536 (by decide) ?_
    refine sl_lald Cx (n := 0) (len := 1) dL_law_1537 hw1.1 rfl hw1.2 (by decide) (by decide) ?_
    refine sl_iload Cx dL_law_1538 rfl ?_
    refine sl_i2l Cx (v := z.toInt64) dL_law_1540 rfl ?_
    refine sl_lcmp Cx dL_law_1541 rfl ?_
    refine sl_if_eq Cx (tgt := 1547) dL_law_1542 (by decide) (fun _ => ?_) (fun q2 => absurd (ce_lg_lt.2.1.mpr (by rw [k2 hR0, z1 hR0])) q2)
    refine sl_goto Cx (tgt := 1931) dL_law_1547 (by decide) ?_
    refine sl_drop (L' := [some (.ref b0), some (.ref a), some (.ref (a + 411)), some (.ref (a + 422)), some (.int (nI (i))), none, none]) (ce_le_s rfl (ce_le_s rfl (ce_le_s rfl (ce_le_s rfl (ce_le_s rfl (ce_le_n (ce_le_n ce_le_e))))))) ?_
    exact cont _ _ _ (iv_2 k3 hD1 hw1 z3 z4 iv2)
set_option maxHeartbeats 2000000 in
set_option maxRecDepth 20000 in
theorem c_23 {G : ce_G} {A : Nat → Prop} {p : Program} {e : Env} {s : State} {m : MethodId} {args : Array Value} {below : List Frame} {meth : Method} {c : Code} {Z : State → Prop} {b0 L0 : Nat} {xs : Nat → Int32} (Cx : ce_CL G A p s m args meth c) (hS : va_X b0 L0 xs s s.heap) (hbl : b0 < s.heap.size) (hbA : ¬ A b0) (hL : L0 ≤ 100000) {a i kc ks : Nat} (hi : i + 5 ≤ L0) (hc : kc ≤ 601000) (hs9 : ks ≤ 7290000) {σ : ce_S} {g : ce_D} {S : ks_S} (iv : sl_iv σ g a S) (cont : ∀ σ' g' S', sl_iv σ' g' a S' → ce_WL G A p e s m args below meth c Z room_1 (kc + 1) (ks + 6) 1931 [some (.ref b0), some (.ref a), some (.ref (a + 411)), some (.ref (a + 422)), some (.int (nI (i))), none, none] [] σ' g') : ce_WL G A p e s m args below meth c Z room_1 kc ks 1550 [some (.ref b0), some (.ref a), some (.ref (a + 411)), some (.ref (a + 422)), some (.int (nI (i))), none, none] [] σ g := by
  obtain ⟨⟨b, hX, hr⟩, hD, hw, hm, iv⟩ := iv
  have h14 : sn S ≤ 14 := hr.2.1.1
  refine sl_aload_n Cx dL_law_1550 rfl ?_
  refine sl_callV Cx dL_law_1551 hX7_fewestBins kRL_185 (kl_of_r hX (m_X7_fewestBins_ok a b S hX hr iv.1)) rfl rfl hX.1 rfl (by decide) (Nat.le_of_ble_eq_true rfl) (by show kc + 0 ≤ 601024; omega) (by show ks + 0 ≤ 7293034; omega) (fun v σ1 g1 h1 => ?_)
  obtain ⟨rfl, k1, k3, k4⟩ := h1
  obtain ⟨hD1, hw1, hm1⟩ := iv_1 hD hw hm k1 k4
  refine sl_aload_n Cx dL_law_1554 rfl ?_
  refine sl_callV Cx dL_law_1555 hX8_fewestBins kRL_188 (kl_m_ok (m_X8_fewestBins_ok (a + 411) S hD1 hm1 iv.1)) rfl rfl hD1.1 rfl (by decide) (Nat.le_of_ble_eq_true rfl) (by show kc + 0 + 0 ≤ 601024; omega) (by show ks + 0 + 0 ≤ 7293034; omega) (fun v σ2 g2 h2 => ?_)
  obtain ⟨z, rfl, rfl, z1, z2, z3, z4⟩ := h2
  refine sl_icmp_eq Cx (tgt := 1931) dL_law_1558 (by decide) (fun _ => ?_) (fun q => absurd (z1 rfl).symm q)
  refine sl_widen (kc' := kc + 1) (ks' := ks + 6) (by show kc + 0 + 0 ≤ kc + 1; omega) (by show ks + 0 + 0 ≤ ks + 6; omega) ?_
  refine sl_drop (L' := [some (.ref b0), some (.ref a), some (.ref (a + 411)), some (.ref (a + 422)), some (.int (nI (i))), none, none]) (ce_le_s rfl (ce_le_s rfl (ce_le_s rfl (ce_le_s rfl (ce_le_s rfl (ce_le_n (ce_le_n ce_le_e))))))) ?_
  exact cont _ _ _ (iv_2 k3 hD1 hw1 z3 z4 iv)
set_option maxHeartbeats 2000000 in
set_option maxRecDepth 20000 in
theorem c_24 {G : ce_G} {A : Nat → Prop} {p : Program} {e : Env} {s : State} {m : MethodId} {args : Array Value} {below : List Frame} {meth : Method} {c : Code} {Z : State → Prop} {b0 L0 : Nat} {xs : Nat → Int32} (Cx : ce_CL G A p s m args meth c) (hS : va_X b0 L0 xs s s.heap) (hbl : b0 < s.heap.size) (hbA : ¬ A b0) (hL : L0 ≤ 100000) {a i kc ks : Nat} (hi : i + 5 ≤ L0) (hc : kc ≤ 601000) (hs9 : ks ≤ 7290000) {σ : ce_S} {g : ce_D} {S : ks_S} (iv : sl_iv σ g a S) (cont : ∀ σ' g' S', sl_iv σ' g' a S' → ce_WL G A p e s m args below meth c Z room_1 (kc + 1) (ks + 6) 1931 [some (.ref b0), some (.ref a), some (.ref (a + 411)), some (.ref (a + 422)), some (.int (nI (i))), none, none] [] σ' g') : ce_WL G A p e s m args below meth c Z room_1 kc ks 1563 [some (.ref b0), some (.ref a), some (.ref (a + 411)), some (.ref (a + 422)), some (.int (nI (i))), none, none] [] σ g := by
  obtain ⟨⟨b, hX, hr⟩, hD, hw, hm, iv⟩ := iv
  have h14 : sn S ≤ 14 := hr.2.1.1
  obtain ⟨R, V, S2, hR, iv2, hh, hhm⟩ := b_shortest iv h14 (xs (i + 1))
  refine sl_aload_n Cx dL_law_1563 rfl ?_
  refine sl_aload_n Cx dL_law_1564 rfl ?_
  refine sl_iload Cx dL_law_1565 rfl ?_
  refine sl_iconst Cx (v := nI 1) dL_law_1567 (by decide) ?_
  refine sl_iadd Cx (z := nI (i + 1)) dL_law_1568 (nI_add _ _) ?_
  refine sl_sld Cx hS hbl hbA hL dL_law_1569 (n := (i + 1)) rfl (by omega) ?_
  refine sl_aload_n Cx dL_law_1570 rfl ?_
  refine sl_callSW Cx dL_law_1571 hL_shortest kRL_189 (hh σ g a (a + 422) b hX hw hr) rfl rfl (by decide) (Nat.le_of_ble_eq_true rfl) (by show kc + 1 ≤ 601024; omega) (by show ks + 6 ≤ 7293034; omega) (fun v σ1 g1 h1 => ?_)
  obtain ⟨rfl, k1, k2, k3, k4⟩ := h1
  obtain ⟨hD1, hw1, hm1⟩ := iv_1 hD hw hm k1 k4
  refine sl_istore Cx dL_law_1574 (Nat.le_of_ble_eq_true rfl) rfl ?_
  refine sl_aload_n Cx dL_law_1576 rfl ?_
  refine sl_aload_n Cx dL_law_1577 rfl ?_
  refine sl_iload Cx dL_law_1578 rfl ?_
  refine sl_iconst Cx (v := nI 1) dL_law_1580 (by decide) ?_
  refine sl_iadd Cx (z := nI (i + 1)) dL_law_1581 (nI_add _ _) ?_
  refine sl_sld Cx hS hbl hbA hL dL_law_1582 (n := (i + 1)) rfl (by omega) ?_
  refine sl_callV Cx dL_law_1583 hX8_shortest kRL_191 (hhm σ1 g1 (a + 411) hD1 hm1) rfl rfl hD1.1 rfl (by decide) (Nat.le_of_ble_eq_true rfl) (by show kc + 1 + 0 ≤ 601024; omega) (by show ks + 6 + 0 ≤ 7293034; omega) (fun v σ2 g2 h2 => ?_)
  obtain ⟨z, rfl, rfl, z1, z2, z3, z4⟩ := h2
  refine sl_istore Cx dL_law_1586 (Nat.le_of_ble_eq_true rfl) rfl ?_
  refine sl_aload_n Cx dL_law_1588 rfl ?_
  refine sl_callV Cx dL_law_1589 hX8_thrown kRL_110 (m_X8_thrown (a + 411) hD1) rfl rfl hD1.1 rfl (by decide) (Nat.le_of_ble_eq_true rfl) (by show kc + 1 + 0 + 0 ≤ 601024; omega) (by show ks + 6 + 0 + 0 ≤ 7293034; omega) (fun v σ3 g3 h3 => ?_)
  obtain ⟨rfl, rfl, rfl⟩ := h3
  refine sl_iload Cx dL_law_1592 rfl ?_
  refine sl_icmp_eq Cx (tgt := 1599) dL_law_1594 (by decide) (fun _ => ?_) (fun q => absurd z2 q)
  refine sl_iload Cx dL_law_1599 rfl ?_
  refine sl_if_ne Cx (tgt := 1616) dL_law_1601 (by decide) (fun _ => ?_) (fun q => ?_)
  · refine sl_goto Cx (tgt := 1931) dL_law_1616 (by decide) ?_
    refine sl_drop (L' := [some (.ref b0), some (.ref a), some (.ref (a + 411)), some (.ref (a + 422)), some (.int (nI (i))), none, none]) (ce_le_s rfl (ce_le_s rfl (ce_le_s rfl (ce_le_s rfl (ce_le_s rfl (ce_le_n (ce_le_n ce_le_e))))))) ?_
    exact cont _ _ _ (iv_2 k3 hD1 hw1 z3 z4 iv2)
  · have hR0 : R = 0 := (nI_eq (by omega) (by decide)).mp (q.trans nI_0.symm)
    refine sl_aload_n Cx dL_law_1604 rfl ?_
    refine sl_iconst Cx (v := nI 0) dL_law_1605 (by decide) ?_
    refine sl_lald Cx (n := 0) (len := 1) dL_law_1606 hw1.1 rfl hw1.2 (by decide) (by decide) ?_
    refine sl_iload Cx dL_law_1607 rfl ?_
    refine sl_i2l Cx (v := z.toInt64) dL_law_1609 rfl ?_
    refine sl_lcmp Cx dL_law_1610 rfl ?_
    refine sl_if_eq Cx (tgt := 1616) dL_law_1611 (by decide) (fun _ => ?_) (fun q2 => absurd (ce_lg_lt.2.1.mpr (by rw [k2 hR0, z1 hR0])) q2)
    refine sl_goto Cx (tgt := 1931) dL_law_1616 (by decide) ?_
    refine sl_drop (L' := [some (.ref b0), some (.ref a), some (.ref (a + 411)), some (.ref (a + 422)), some (.int (nI (i))), none, none]) (ce_le_s rfl (ce_le_s rfl (ce_le_s rfl (ce_le_s rfl (ce_le_s rfl (ce_le_n (ce_le_n ce_le_e))))))) ?_
    exact cont _ _ _ (iv_2 k3 hD1 hw1 z3 z4 iv2)
set_option maxHeartbeats 2000000 in
set_option maxRecDepth 20000 in
theorem c_25 {G : ce_G} {A : Nat → Prop} {p : Program} {e : Env} {s : State} {m : MethodId} {args : Array Value} {below : List Frame} {meth : Method} {c : Code} {Z : State → Prop} {b0 L0 : Nat} {xs : Nat → Int32} (Cx : ce_CL G A p s m args meth c) (hS : va_X b0 L0 xs s s.heap) (hbl : b0 < s.heap.size) (hbA : ¬ A b0) (hL : L0 ≤ 100000) {a i kc ks : Nat} (hi : i + 5 ≤ L0) (hc : kc ≤ 601000) (hs9 : ks ≤ 7290000) {σ : ce_S} {g : ce_D} {S : ks_S} (iv : sl_iv σ g a S) (cont : ∀ σ' g' S', sl_iv σ' g' a S' → ce_WL G A p e s m args below meth c Z room_1 (kc + 1) (ks + 6) 1931 [some (.ref b0), some (.ref a), some (.ref (a + 411)), some (.ref (a + 422)), some (.int (nI (i))), none, none] [] σ' g') : ce_WL G A p e s m args below meth c Z room_1 kc ks 1619 [some (.ref b0), some (.ref a), some (.ref (a + 411)), some (.ref (a + 422)), some (.int (nI (i))), none, none] [] σ g := by
  obtain ⟨⟨b, hX, hr⟩, hD, hw, hm, iv⟩ := iv
  have h14 : sn S ≤ 14 := hr.2.1.1
  obtain ⟨R, V, S2, hR, iv2, hh, hhm⟩ := b_runScript iv h14 (xs (i + 1)) (sl_t (xs (i + 2)) (xs (i + 3)))
  refine sl_aload_n Cx dL_law_1619 rfl ?_
  refine sl_aload_n Cx dL_law_1620 rfl ?_
  refine sl_iload Cx dL_law_1621 rfl ?_
  refine sl_iconst Cx (v := nI 1) dL_law_1623 (by decide) ?_
  refine sl_iadd Cx (z := nI (i + 1)) dL_law_1624 (nI_add _ _) ?_
  refine sl_sld Cx hS hbl hbA hL dL_law_1625 (n := (i + 1)) rfl (by omega) ?_
  refine sl_aload_n Cx dL_law_1626 rfl ?_
  refine sl_iload Cx dL_law_1627 rfl ?_
  refine sl_iconst Cx (v := nI 2) dL_law_1629 (by decide) ?_
  refine sl_iadd Cx (z := nI (i + 2)) dL_law_1630 (nI_add _ _) ?_
  refine sl_sld Cx hS hbl hbA hL dL_law_1631 (n := (i + 2)) rfl (by omega) ?_
  refine sl_i2l Cx (v := ((xs (i + 2))).toInt64) dL_law_1632 rfl ?_
  refine sl_bipush Cx (v := nI 32) dL_law_1633 (by decide) ?_
  refine sl_lshl Cx (v := ((xs (i + 2))).toInt64 <<< ((nI 32).toInt64 &&& 63)) dL_law_1635 rfl ?_
  refine sl_aload_n Cx dL_law_1636 rfl ?_
  refine sl_iload Cx dL_law_1637 rfl ?_
  refine sl_iconst Cx (v := nI 3) dL_law_1639 (by decide) ?_
  refine sl_iadd Cx (z := nI (i + 3)) dL_law_1640 (nI_add _ _) ?_
  refine sl_sld Cx hS hbl hbA hL dL_law_1641 (n := (i + 3)) rfl (by omega) ?_
  refine sl_i2l Cx (v := ((xs (i + 3))).toInt64) dL_law_1642 rfl ?_
  refine sl_ldc2 Cx dL_law_1643 kRL_192 ?_
  refine sl_land Cx (z := ((xs (i + 3))).toInt64 &&& (4294967295 : Int64)) dL_law_1646 rfl ?_
  refine sl_lor Cx (z := sl_t (xs (i + 2)) (xs (i + 3))) dL_law_1647 rfl ?_
  refine sl_aload_n Cx dL_law_1648 rfl ?_
  refine sl_callSW Cx dL_law_1649 hL_runScript kRL_194 (hh σ g a (a + 422) b hX hw hr) rfl rfl (by decide) (Nat.le_of_ble_eq_true rfl) (by show kc + 1 ≤ 601024; omega) (by show ks + 6 ≤ 7293034; omega) (fun v σ1 g1 h1 => ?_)
  obtain ⟨rfl, k1, k2, k3, k4⟩ := h1
  obtain ⟨hD1, hw1, hm1⟩ := iv_1 hD hw hm k1 k4
  refine sl_istore Cx dL_law_1652 (Nat.le_of_ble_eq_true rfl) rfl ?_
  refine sl_aload_n Cx dL_law_1654 rfl ?_
  refine sl_aload_n Cx dL_law_1655 rfl ?_
  refine sl_iload Cx dL_law_1656 rfl ?_
  refine sl_iconst Cx (v := nI 1) dL_law_1658 (by decide) ?_
  refine sl_iadd Cx (z := nI (i + 1)) dL_law_1659 (nI_add _ _) ?_
  refine sl_sld Cx hS hbl hbA hL dL_law_1660 (n := (i + 1)) rfl (by omega) ?_
  refine sl_aload_n Cx dL_law_1661 rfl ?_
  refine sl_iload Cx dL_law_1662 rfl ?_
  refine sl_iconst Cx (v := nI 2) dL_law_1664 (by decide) ?_
  refine sl_iadd Cx (z := nI (i + 2)) dL_law_1665 (nI_add _ _) ?_
  refine sl_sld Cx hS hbl hbA hL dL_law_1666 (n := (i + 2)) rfl (by omega) ?_
  refine sl_i2l Cx (v := ((xs (i + 2))).toInt64) dL_law_1667 rfl ?_
  refine sl_bipush Cx (v := nI 32) dL_law_1668 (by decide) ?_
  refine sl_lshl Cx (v := ((xs (i + 2))).toInt64 <<< ((nI 32).toInt64 &&& 63)) dL_law_1670 rfl ?_
  refine sl_aload_n Cx dL_law_1671 rfl ?_
  refine sl_iload Cx dL_law_1672 rfl ?_
  refine sl_iconst Cx (v := nI 3) dL_law_1674 (by decide) ?_
  refine sl_iadd Cx (z := nI (i + 3)) dL_law_1675 (nI_add _ _) ?_
  refine sl_sld Cx hS hbl hbA hL dL_law_1676 (n := (i + 3)) rfl (by omega) ?_
  refine sl_i2l Cx (v := ((xs (i + 3))).toInt64) dL_law_1677 rfl ?_
  refine sl_ldc2 Cx dL_law_1678 kRL_192 ?_
  refine sl_land Cx (z := ((xs (i + 3))).toInt64 &&& (4294967295 : Int64)) dL_law_1681 rfl ?_
  refine sl_lor Cx (z := sl_t (xs (i + 2)) (xs (i + 3))) dL_law_1682 rfl ?_
  refine sl_callV Cx dL_law_1683 hX8_runScript kRL_197 (hhm σ1 g1 (a + 411) hD1 hm1) rfl rfl hD1.1 rfl (by decide) (Nat.le_of_ble_eq_true rfl) (by show kc + 1 + 0 ≤ 601024; omega) (by show ks + 6 + 0 ≤ 7293034; omega) (fun v σ2 g2 h2 => ?_)
  obtain ⟨z, rfl, rfl, z1, z2, z3, z4⟩ := h2
  refine sl_istore Cx dL_law_1686 (Nat.le_of_ble_eq_true rfl) rfl ?_
  refine sl_aload_n Cx dL_law_1688 rfl ?_
  refine sl_callV Cx dL_law_1689 hX8_thrown kRL_110 (m_X8_thrown (a + 411) hD1) rfl rfl hD1.1 rfl (by decide) (Nat.le_of_ble_eq_true rfl) (by show kc + 1 + 0 + 0 ≤ 601024; omega) (by show ks + 6 + 0 + 0 ≤ 7293034; omega) (fun v σ3 g3 h3 => ?_)
  obtain ⟨rfl, rfl, rfl⟩ := h3
  refine sl_iload Cx dL_law_1692 rfl ?_
  refine sl_icmp_eq Cx (tgt := 1699) dL_law_1694 (by decide) (fun _ => ?_) (fun q => absurd z2 q)
  refine sl_iload Cx dL_law_1699 rfl ?_
  refine sl_if_ne Cx (tgt := 1716) dL_law_1701 (by decide) (fun _ => ?_) (fun q => ?_)
  · refine sl_goto Cx (tgt := 1931) dL_law_1716 (by decide) ?_
    refine sl_drop (L' := [some (.ref b0), some (.ref a), some (.ref (a + 411)), some (.ref (a + 422)), some (.int (nI (i))), none, none]) (ce_le_s rfl (ce_le_s rfl (ce_le_s rfl (ce_le_s rfl (ce_le_s rfl (ce_le_n (ce_le_n ce_le_e))))))) ?_
    exact cont _ _ _ (iv_2 k3 hD1 hw1 z3 z4 iv2)
  · have hR0 : R = 0 := (nI_eq (by omega) (by decide)).mp (q.trans nI_0.symm)
    refine sl_aload_n Cx dL_law_1704 rfl ?_
    refine sl_iconst Cx (v := nI 0) dL_law_1705 (by decide) ?_
    refine sl_lald Cx (n := 0) (len := 1) dL_law_1706 hw1.1 rfl hw1.2 (by decide) (by decide) ?_
    refine sl_iload Cx dL_law_1707 rfl ?_
    refine sl_i2l Cx (v := z.toInt64) dL_law_1709 rfl ?_
    refine sl_lcmp Cx dL_law_1710 rfl ?_
    refine sl_if_eq Cx (tgt := 1716) dL_law_1711 (by decide) (fun _ => ?_) (fun q2 => absurd (ce_lg_lt.2.1.mpr (by rw [k2 hR0, z1 hR0])) q2)
    refine sl_goto Cx (tgt := 1931) dL_law_1716 (by decide) ?_
    refine sl_drop (L' := [some (.ref b0), some (.ref a), some (.ref (a + 411)), some (.ref (a + 422)), some (.int (nI (i))), none, none]) (ce_le_s rfl (ce_le_s rfl (ce_le_s rfl (ce_le_s rfl (ce_le_s rfl (ce_le_n (ce_le_n ce_le_e))))))) ?_
    exact cont _ _ _ (iv_2 k3 hD1 hw1 z3 z4 iv2)
set_option maxHeartbeats 2000000 in
set_option maxRecDepth 20000 in
theorem c_26 {G : ce_G} {A : Nat → Prop} {p : Program} {e : Env} {s : State} {m : MethodId} {args : Array Value} {below : List Frame} {meth : Method} {c : Code} {Z : State → Prop} {b0 L0 : Nat} {xs : Nat → Int32} (Cx : ce_CL G A p s m args meth c) (hS : va_X b0 L0 xs s s.heap) (hbl : b0 < s.heap.size) (hbA : ¬ A b0) (hL : L0 ≤ 100000) {a i kc ks : Nat} (hi : i + 5 ≤ L0) (hc : kc ≤ 601000) (hs9 : ks ≤ 7290000) {σ : ce_S} {g : ce_D} {S : ks_S} (iv : sl_iv σ g a S) (cont : ∀ σ' g' S', sl_iv σ' g' a S' → ce_WL G A p e s m args below meth c Z room_1 (kc + 1) (ks + 6) 1931 [some (.ref b0), some (.ref a), some (.ref (a + 411)), some (.ref (a + 422)), some (.int (nI (i))), none, none] [] σ' g') : ce_WL G A p e s m args below meth c Z room_1 kc ks 1719 [some (.ref b0), some (.ref a), some (.ref (a + 411)), some (.ref (a + 422)), some (.int (nI (i))), none, none] [] σ g := by
  obtain ⟨⟨b, hX, hr⟩, hD, hw, hm, iv⟩ := iv
  have h14 : sn S ≤ 14 := hr.2.1.1
  obtain ⟨R, V, S2, hR, iv2, hh, hhm⟩ := b_simulate iv h14 (sl_t (xs (i + 1)) (xs (i + 2))) (xs (i + 3))
  refine sl_aload_n Cx dL_law_1719 rfl ?_
  refine sl_aload_n Cx dL_law_1720 rfl ?_
  refine sl_iload Cx dL_law_1721 rfl ?_
  refine sl_iconst Cx (v := nI 1) dL_law_1723 (by decide) ?_
  refine sl_iadd Cx (z := nI (i + 1)) dL_law_1724 (nI_add _ _) ?_
  refine sl_sld Cx hS hbl hbA hL dL_law_1725 (n := (i + 1)) rfl (by omega) ?_
  refine sl_i2l Cx (v := ((xs (i + 1))).toInt64) dL_law_1726 rfl ?_
  refine sl_bipush Cx (v := nI 32) dL_law_1727 (by decide) ?_
  refine sl_lshl Cx (v := ((xs (i + 1))).toInt64 <<< ((nI 32).toInt64 &&& 63)) dL_law_1729 rfl ?_
  refine sl_aload_n Cx dL_law_1730 rfl ?_
  refine sl_iload Cx dL_law_1731 rfl ?_
  refine sl_iconst Cx (v := nI 2) dL_law_1733 (by decide) ?_
  refine sl_iadd Cx (z := nI (i + 2)) dL_law_1734 (nI_add _ _) ?_
  refine sl_sld Cx hS hbl hbA hL dL_law_1735 (n := (i + 2)) rfl (by omega) ?_
  refine sl_i2l Cx (v := ((xs (i + 2))).toInt64) dL_law_1736 rfl ?_
  refine sl_ldc2 Cx dL_law_1737 kRL_192 ?_
  refine sl_land Cx (z := ((xs (i + 2))).toInt64 &&& (4294967295 : Int64)) dL_law_1740 rfl ?_
  refine sl_lor Cx (z := sl_t (xs (i + 1)) (xs (i + 2))) dL_law_1741 rfl ?_
  refine sl_aload_n Cx dL_law_1742 rfl ?_
  refine sl_iload Cx dL_law_1743 rfl ?_
  refine sl_iconst Cx (v := nI 3) dL_law_1745 (by decide) ?_
  refine sl_iadd Cx (z := nI (i + 3)) dL_law_1746 (nI_add _ _) ?_
  refine sl_sld Cx hS hbl hbA hL dL_law_1747 (n := (i + 3)) rfl (by omega) ?_
  refine sl_aload_n Cx dL_law_1748 rfl ?_
  refine sl_callSW Cx dL_law_1749 hL_simulate kRL_198 (hh σ g a (a + 422) b hX hw hr) rfl rfl (by decide) (Nat.le_of_ble_eq_true rfl) (by show kc + 1 ≤ 601024; omega) (by show ks + 6 ≤ 7293034; omega) (fun v σ1 g1 h1 => ?_)
  obtain ⟨rfl, k1, k2, k3, k4⟩ := h1
  obtain ⟨hD1, hw1, hm1⟩ := iv_1 hD hw hm k1 k4
  refine sl_istore Cx dL_law_1752 (Nat.le_of_ble_eq_true rfl) rfl ?_
  refine sl_aload_n Cx dL_law_1754 rfl ?_
  refine sl_aload_n Cx dL_law_1755 rfl ?_
  refine sl_iload Cx dL_law_1756 rfl ?_
  refine sl_iconst Cx (v := nI 1) dL_law_1758 (by decide) ?_
  refine sl_iadd Cx (z := nI (i + 1)) dL_law_1759 (nI_add _ _) ?_
  refine sl_sld Cx hS hbl hbA hL dL_law_1760 (n := (i + 1)) rfl (by omega) ?_
  refine sl_i2l Cx (v := ((xs (i + 1))).toInt64) dL_law_1761 rfl ?_
  refine sl_bipush Cx (v := nI 32) dL_law_1762 (by decide) ?_
  refine sl_lshl Cx (v := ((xs (i + 1))).toInt64 <<< ((nI 32).toInt64 &&& 63)) dL_law_1764 rfl ?_
  refine sl_aload_n Cx dL_law_1765 rfl ?_
  refine sl_iload Cx dL_law_1766 rfl ?_
  refine sl_iconst Cx (v := nI 2) dL_law_1768 (by decide) ?_
  refine sl_iadd Cx (z := nI (i + 2)) dL_law_1769 (nI_add _ _) ?_
  refine sl_sld Cx hS hbl hbA hL dL_law_1770 (n := (i + 2)) rfl (by omega) ?_
  refine sl_i2l Cx (v := ((xs (i + 2))).toInt64) dL_law_1771 rfl ?_
  refine sl_ldc2 Cx dL_law_1772 kRL_192 ?_
  refine sl_land Cx (z := ((xs (i + 2))).toInt64 &&& (4294967295 : Int64)) dL_law_1775 rfl ?_
  refine sl_lor Cx (z := sl_t (xs (i + 1)) (xs (i + 2))) dL_law_1776 rfl ?_
  refine sl_aload_n Cx dL_law_1777 rfl ?_
  refine sl_iload Cx dL_law_1778 rfl ?_
  refine sl_iconst Cx (v := nI 3) dL_law_1780 (by decide) ?_
  refine sl_iadd Cx (z := nI (i + 3)) dL_law_1781 (nI_add _ _) ?_
  refine sl_sld Cx hS hbl hbA hL dL_law_1782 (n := (i + 3)) rfl (by omega) ?_
  refine sl_callV Cx dL_law_1783 hX8_simulate kRL_201 (hhm σ1 g1 (a + 411) hD1 hm1) rfl rfl hD1.1 rfl (by decide) (Nat.le_of_ble_eq_true rfl) (by show kc + 1 + 0 ≤ 601024; omega) (by show ks + 6 + 0 ≤ 7293034; omega) (fun v σ2 g2 h2 => ?_)
  obtain ⟨z, rfl, rfl, z1, z2, z3, z4⟩ := h2
  refine sl_istore Cx dL_law_1786 (Nat.le_of_ble_eq_true rfl) rfl ?_
  refine sl_aload_n Cx dL_law_1788 rfl ?_
  refine sl_callV Cx dL_law_1789 hX8_thrown kRL_110 (m_X8_thrown (a + 411) hD1) rfl rfl hD1.1 rfl (by decide) (Nat.le_of_ble_eq_true rfl) (by show kc + 1 + 0 + 0 ≤ 601024; omega) (by show ks + 6 + 0 + 0 ≤ 7293034; omega) (fun v σ3 g3 h3 => ?_)
  obtain ⟨rfl, rfl, rfl⟩ := h3
  refine sl_iload Cx dL_law_1792 rfl ?_
  refine sl_icmp_eq Cx (tgt := 1799) dL_law_1794 (by decide) (fun _ => ?_) (fun q => absurd z2 q)
  refine sl_iload Cx dL_law_1799 rfl ?_
  refine sl_if_ne Cx (tgt := 1816) dL_law_1801 (by decide) (fun _ => ?_) (fun q => ?_)
  · refine sl_goto Cx (tgt := 1931) dL_law_1816 (by decide) ?_
    refine sl_drop (L' := [some (.ref b0), some (.ref a), some (.ref (a + 411)), some (.ref (a + 422)), some (.int (nI (i))), none, none]) (ce_le_s rfl (ce_le_s rfl (ce_le_s rfl (ce_le_s rfl (ce_le_s rfl (ce_le_n (ce_le_n ce_le_e))))))) ?_
    exact cont _ _ _ (iv_2 k3 hD1 hw1 z3 z4 iv2)
  · have hR0 : R = 0 := (nI_eq (by omega) (by decide)).mp (q.trans nI_0.symm)
    refine sl_aload_n Cx dL_law_1804 rfl ?_
    refine sl_iconst Cx (v := nI 0) dL_law_1805 (by decide) ?_
    refine sl_lald Cx (n := 0) (len := 1) dL_law_1806 hw1.1 rfl hw1.2 (by decide) (by decide) ?_
    refine sl_iload Cx dL_law_1807 rfl ?_
    refine sl_i2l Cx (v := z.toInt64) dL_law_1809 rfl ?_
    refine sl_lcmp Cx dL_law_1810 rfl ?_
    refine sl_if_eq Cx (tgt := 1816) dL_law_1811 (by decide) (fun _ => ?_) (fun q2 => absurd (ce_lg_lt.2.1.mpr (by rw [k2 hR0, z1 hR0])) q2)
    refine sl_goto Cx (tgt := 1931) dL_law_1816 (by decide) ?_
    refine sl_drop (L' := [some (.ref b0), some (.ref a), some (.ref (a + 411)), some (.ref (a + 422)), some (.int (nI (i))), none, none]) (ce_le_s rfl (ce_le_s rfl (ce_le_s rfl (ce_le_s rfl (ce_le_s rfl (ce_le_n (ce_le_n ce_le_e))))))) ?_
    exact cont _ _ _ (iv_2 k3 hD1 hw1 z3 z4 iv2)
set_option maxHeartbeats 2000000 in
set_option maxRecDepth 20000 in
theorem c_27 {G : ce_G} {A : Nat → Prop} {p : Program} {e : Env} {s : State} {m : MethodId} {args : Array Value} {below : List Frame} {meth : Method} {c : Code} {Z : State → Prop} {b0 L0 : Nat} {xs : Nat → Int32} (Cx : ce_CL G A p s m args meth c) (hS : va_X b0 L0 xs s s.heap) (hbl : b0 < s.heap.size) (hbA : ¬ A b0) (hL : L0 ≤ 100000) {a i kc ks : Nat} (hi : i + 5 ≤ L0) (hc : kc ≤ 601000) (hs9 : ks ≤ 7290000) {σ : ce_S} {g : ce_D} {S : ks_S} (iv : sl_iv σ g a S) (cont : ∀ σ' g' S', sl_iv σ' g' a S' → ce_WL G A p e s m args below meth c Z room_1 (kc + 1) (ks + 6) 1931 [some (.ref b0), some (.ref a), some (.ref (a + 411)), some (.ref (a + 422)), some (.int (nI (i))), none, none] [] σ' g') : ce_WL G A p e s m args below meth c Z room_1 kc ks 1819 [some (.ref b0), some (.ref a), some (.ref (a + 411)), some (.ref (a + 422)), some (.int (nI (i))), none, none] [] σ g := by
  obtain ⟨⟨b, hX, hr⟩, hD, hw, hm, iv⟩ := iv
  have h14 : sn S ≤ 14 := hr.2.1.1
  obtain ⟨R, V, S2, hR, iv2, hh, hhm⟩ := b_save iv h14 (xs (i + 1))
  refine sl_aload_n Cx dL_law_1819 rfl ?_
  refine sl_aload_n Cx dL_law_1820 rfl ?_
  refine sl_iload Cx dL_law_1821 rfl ?_
  refine sl_iconst Cx (v := nI 1) dL_law_1823 (by decide) ?_
  refine sl_iadd Cx (z := nI (i + 1)) dL_law_1824 (nI_add _ _) ?_
  refine sl_sld Cx hS hbl hbA hL dL_law_1825 (n := (i + 1)) rfl (by omega) ?_
  refine sl_aload_n Cx dL_law_1826 rfl ?_
  refine sl_callSW Cx dL_law_1827 hL_save kRL_202 (hh σ g a (a + 422) b hX hw hr) rfl rfl (by decide) (Nat.le_of_ble_eq_true rfl) (by show kc + 1 ≤ 601024; omega) (by show ks + 6 ≤ 7293034; omega) (fun v σ1 g1 h1 => ?_)
  obtain ⟨rfl, k1, k2, k3, k4⟩ := h1
  obtain ⟨hD1, hw1, hm1⟩ := iv_1 hD hw hm k1 k4
  refine sl_istore Cx dL_law_1830 (Nat.le_of_ble_eq_true rfl) rfl ?_
  refine sl_aload_n Cx dL_law_1832 rfl ?_
  refine sl_aload_n Cx dL_law_1833 rfl ?_
  refine sl_iload Cx dL_law_1834 rfl ?_
  refine sl_iconst Cx (v := nI 1) dL_law_1836 (by decide) ?_
  refine sl_iadd Cx (z := nI (i + 1)) dL_law_1837 (nI_add _ _) ?_
  refine sl_sld Cx hS hbl hbA hL dL_law_1838 (n := (i + 1)) rfl (by omega) ?_
  refine sl_callV Cx dL_law_1839 hX8_save kRL_204 (hhm σ1 g1 (a + 411) hD1 hm1) rfl rfl hD1.1 rfl (by decide) (Nat.le_of_ble_eq_true rfl) (by show kc + 1 + 0 ≤ 601024; omega) (by show ks + 6 + 0 ≤ 7293034; omega) (fun v σ2 g2 h2 => ?_)
  obtain ⟨z, rfl, rfl, z1, z2, z3, z4⟩ := h2
  refine sl_istore Cx dL_law_1842 (Nat.le_of_ble_eq_true rfl) rfl ?_
  refine sl_aload_n Cx dL_law_1844 rfl ?_
  refine sl_callV Cx dL_law_1845 hX8_thrown kRL_110 (m_X8_thrown (a + 411) hD1) rfl rfl hD1.1 rfl (by decide) (Nat.le_of_ble_eq_true rfl) (by show kc + 1 + 0 + 0 ≤ 601024; omega) (by show ks + 6 + 0 + 0 ≤ 7293034; omega) (fun v σ3 g3 h3 => ?_)
  obtain ⟨rfl, rfl, rfl⟩ := h3
  refine sl_iload Cx dL_law_1848 rfl ?_
  refine sl_icmp_eq Cx (tgt := 1855) dL_law_1850 (by decide) (fun _ => ?_) (fun q => absurd z2 q)
  refine sl_iload Cx dL_law_1855 rfl ?_
  refine sl_if_ne Cx (tgt := 1872) dL_law_1857 (by decide) (fun _ => ?_) (fun q => ?_)
  · refine sl_goto Cx (tgt := 1931) dL_law_1872 (by decide) ?_
    refine sl_drop (L' := [some (.ref b0), some (.ref a), some (.ref (a + 411)), some (.ref (a + 422)), some (.int (nI (i))), none, none]) (ce_le_s rfl (ce_le_s rfl (ce_le_s rfl (ce_le_s rfl (ce_le_s rfl (ce_le_n (ce_le_n ce_le_e))))))) ?_
    exact cont _ _ _ (iv_2 k3 hD1 hw1 z3 z4 iv2)
  · have hR0 : R = 0 := (nI_eq (by omega) (by decide)).mp (q.trans nI_0.symm)
    refine sl_aload_n Cx dL_law_1860 rfl ?_
    refine sl_iconst Cx (v := nI 0) dL_law_1861 (by decide) ?_
    refine sl_lald Cx (n := 0) (len := 1) dL_law_1862 hw1.1 rfl hw1.2 (by decide) (by decide) ?_
    refine sl_iload Cx dL_law_1863 rfl ?_
    refine sl_i2l Cx (v := z.toInt64) dL_law_1865 rfl ?_
    refine sl_lcmp Cx dL_law_1866 rfl ?_
    refine sl_if_eq Cx (tgt := 1872) dL_law_1867 (by decide) (fun _ => ?_) (fun q2 => absurd (ce_lg_lt.2.1.mpr (by rw [k2 hR0, z1 hR0])) q2)
    refine sl_goto Cx (tgt := 1931) dL_law_1872 (by decide) ?_
    refine sl_drop (L' := [some (.ref b0), some (.ref a), some (.ref (a + 411)), some (.ref (a + 422)), some (.int (nI (i))), none, none]) (ce_le_s rfl (ce_le_s rfl (ce_le_s rfl (ce_le_s rfl (ce_le_s rfl (ce_le_n (ce_le_n ce_le_e))))))) ?_
    exact cont _ _ _ (iv_2 k3 hD1 hw1 z3 z4 iv2)
set_option maxHeartbeats 2000000 in
set_option maxRecDepth 20000 in
theorem c_28 {G : ce_G} {A : Nat → Prop} {p : Program} {e : Env} {s : State} {m : MethodId} {args : Array Value} {below : List Frame} {meth : Method} {c : Code} {Z : State → Prop} {b0 L0 : Nat} {xs : Nat → Int32} (Cx : ce_CL G A p s m args meth c) (hS : va_X b0 L0 xs s s.heap) (hbl : b0 < s.heap.size) (hbA : ¬ A b0) (hL : L0 ≤ 100000) {a i kc ks : Nat} (hi : i + 5 ≤ L0) (hc : kc ≤ 601000) (hs9 : ks ≤ 7290000) {σ : ce_S} {g : ce_D} {S : ks_S} (iv : sl_iv σ g a S) (cont : ∀ σ' g' S', sl_iv σ' g' a S' → ce_WL G A p e s m args below meth c Z room_1 (kc + 1) (ks + 6) 1931 [some (.ref b0), some (.ref a), some (.ref (a + 411)), some (.ref (a + 422)), some (.int (nI (i))), none, none] [] σ' g') : ce_WL G A p e s m args below meth c Z room_1 kc ks 1875 [some (.ref b0), some (.ref a), some (.ref (a + 411)), some (.ref (a + 422)), some (.int (nI (i))), none, none] [] σ g := by
  obtain ⟨⟨b, hX, hr⟩, hD, hw, hm, iv⟩ := iv
  have h14 : sn S ≤ 14 := hr.2.1.1
  obtain ⟨R, V, S2, hR, iv2, hh, hhm⟩ := b_restore iv h14 (xs (i + 1))
  refine sl_aload_n Cx dL_law_1875 rfl ?_
  refine sl_aload_n Cx dL_law_1876 rfl ?_
  refine sl_iload Cx dL_law_1877 rfl ?_
  refine sl_iconst Cx (v := nI 1) dL_law_1879 (by decide) ?_
  refine sl_iadd Cx (z := nI (i + 1)) dL_law_1880 (nI_add _ _) ?_
  refine sl_sld Cx hS hbl hbA hL dL_law_1881 (n := (i + 1)) rfl (by omega) ?_
  refine sl_aload_n Cx dL_law_1882 rfl ?_
  refine sl_callSW Cx dL_law_1883 hL_restore kRL_205 (hh σ g a (a + 422) b hX hw hr) rfl rfl (by decide) (Nat.le_of_ble_eq_true rfl) (by show kc + 1 ≤ 601024; omega) (by show ks + 6 ≤ 7293034; omega) (fun v σ1 g1 h1 => ?_)
  obtain ⟨rfl, k1, k2, k3, k4⟩ := h1
  obtain ⟨hD1, hw1, hm1⟩ := iv_1 hD hw hm k1 k4
  refine sl_istore Cx dL_law_1886 (Nat.le_of_ble_eq_true rfl) rfl ?_
  refine sl_aload_n Cx dL_law_1888 rfl ?_
  refine sl_aload_n Cx dL_law_1889 rfl ?_
  refine sl_iload Cx dL_law_1890 rfl ?_
  refine sl_iconst Cx (v := nI 1) dL_law_1892 (by decide) ?_
  refine sl_iadd Cx (z := nI (i + 1)) dL_law_1893 (nI_add _ _) ?_
  refine sl_sld Cx hS hbl hbA hL dL_law_1894 (n := (i + 1)) rfl (by omega) ?_
  refine sl_callV Cx dL_law_1895 hX8_restore kRL_207 (hhm σ1 g1 (a + 411) hD1 hm1) rfl rfl hD1.1 rfl (by decide) (Nat.le_of_ble_eq_true rfl) (by show kc + 1 + 0 ≤ 601024; omega) (by show ks + 6 + 0 ≤ 7293034; omega) (fun v σ2 g2 h2 => ?_)
  obtain ⟨z, rfl, rfl, z1, z2, z3, z4⟩ := h2
  refine sl_istore Cx dL_law_1898 (Nat.le_of_ble_eq_true rfl) rfl ?_
  refine sl_aload_n Cx dL_law_1900 rfl ?_
  refine sl_callV Cx dL_law_1901 hX8_thrown kRL_110 (m_X8_thrown (a + 411) hD1) rfl rfl hD1.1 rfl (by decide) (Nat.le_of_ble_eq_true rfl) (by show kc + 1 + 0 + 0 ≤ 601024; omega) (by show ks + 6 + 0 + 0 ≤ 7293034; omega) (fun v σ3 g3 h3 => ?_)
  obtain ⟨rfl, rfl, rfl⟩ := h3
  refine sl_iload Cx dL_law_1904 rfl ?_
  refine sl_icmp_eq Cx (tgt := 1911) dL_law_1906 (by decide) (fun _ => ?_) (fun q => absurd z2 q)
  refine sl_iload Cx dL_law_1911 rfl ?_
  refine sl_if_ne Cx (tgt := 1928) dL_law_1913 (by decide) (fun _ => ?_) (fun q => ?_)
  · refine sl_goto Cx (tgt := 1931) dL_law_1928 (by decide) ?_
    refine sl_drop (L' := [some (.ref b0), some (.ref a), some (.ref (a + 411)), some (.ref (a + 422)), some (.int (nI (i))), none, none]) (ce_le_s rfl (ce_le_s rfl (ce_le_s rfl (ce_le_s rfl (ce_le_s rfl (ce_le_n (ce_le_n ce_le_e))))))) ?_
    exact cont _ _ _ (iv_2 k3 hD1 hw1 z3 z4 iv2)
  · have hR0 : R = 0 := (nI_eq (by omega) (by decide)).mp (q.trans nI_0.symm)
    refine sl_aload_n Cx dL_law_1916 rfl ?_
    refine sl_iconst Cx (v := nI 0) dL_law_1917 (by decide) ?_
    refine sl_lald Cx (n := 0) (len := 1) dL_law_1918 hw1.1 rfl hw1.2 (by decide) (by decide) ?_
    refine sl_iload Cx dL_law_1919 rfl ?_
    refine sl_i2l Cx (v := z.toInt64) dL_law_1921 rfl ?_
    refine sl_lcmp Cx dL_law_1922 rfl ?_
    refine sl_if_eq Cx (tgt := 1928) dL_law_1923 (by decide) (fun _ => ?_) (fun q2 => absurd (ce_lg_lt.2.1.mpr (by rw [k2 hR0, z1 hR0])) q2)
    refine sl_goto Cx (tgt := 1931) dL_law_1928 (by decide) ?_
    refine sl_drop (L' := [some (.ref b0), some (.ref a), some (.ref (a + 411)), some (.ref (a + 422)), some (.int (nI (i))), none, none]) (ce_le_s rfl (ce_le_s rfl (ce_le_s rfl (ce_le_s rfl (ce_le_s rfl (ce_le_n (ce_le_n ce_le_e))))))) ?_
    exact cont _ _ _ (iv_2 k3 hD1 hw1 z3 z4 iv2)
