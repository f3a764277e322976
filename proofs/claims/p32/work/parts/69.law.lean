theorem fl_lt {f : Nat → List Nat} (h : ∀ i c, c ∈ f i → c < 256) : ∀ (n j c : Nat), c ∈ fl f j n → c < 256
  | 0, _, _, hc => by cases hc
  | n + 1, j, c, hc => by
    rcases List.mem_append.mp (show c ∈ f j ++ fl f (j + 1) n from hc) with hc | hc
    · exact h j c hc
    · exact fl_lt h n (j + 1) c hc
theorem mem3 {x1 x2 x3 c : Nat} (h : c ∈ [x1, x2, x3]) : c = x1 ∨ c = x2 ∨ c = x3 := by simpa using h
theorem mem4 {x1 x2 x3 x4 c : Nat} (h : c ∈ [x1, x2, x3, x4]) : c = x1 ∨ c = x2 ∨ c = x3 ∨ c = x4 := by simpa using h
theorem mem5 {x1 x2 x3 x4 x5 c : Nat} (h : c ∈ [x1, x2, x3, x4, x5]) : c = x1 ∨ c = x2 ∨ c = x3 ∨ c = x4 ∨ c = x5 := by simpa using h
theorem tx_m_lt {x j c : Nat} (h : c ∈ tx_m x j) : c < 256 := by
  generalize hv : x / 2 ^ j = v
  unfold tx_m at h
  rw [hv] at h
  have h2 := mem4 h
  omega
theorem tx_w_lt {x j c : Nat} (h : c ∈ tx_w x j) : c < 256 := by
  generalize hv : x / 2 ^ (2 * j) = v
  generalize hw : x / 2 ^ (3 * j) = w
  unfold tx_w at h
  rw [hv, hw] at h
  have h2 := mem5 h
  omega
theorem tx_b_lt {x j c : Nat} (h : c ∈ tx_b x j) : c < 256 := by
  generalize hv : x / 2 ^ j = v
  unfold tx_b at h
  rw [hv] at h
  have h2 := mem3 h
  omega
theorem tx_o_lt {x y mz wz j c : Nat} (h0 : 0 < mz ∧ mz ≤ 9 ∧ 0 < wz ∧ wz ≤ 9) (h : c ∈ tx_o x y mz wz j) : c < 256 := by
  have h3 : x / 2 ^ j % 256 % mz < mz := Nat.mod_lt _ h0.1
  have h4 : y / 2 ^ j % 256 % wz < wz := Nat.mod_lt _ h0.2.2.1
  generalize hv : x / 2 ^ (j + 3) = v
  generalize h5 : x / 2 ^ j % 256 % mz = u1 at h3
  generalize h6 : y / 2 ^ j % 256 % wz = u2 at h4
  unfold tx_o at h
  rw [hv, h5, h6] at h
  have h2 := mem5 h
  omega
theorem tx_all_lt {x y c : Nat} (hc : c ∈ tx_all x y) : c < 256 := by
  unfold tx_all at hc
  rcases List.mem_append.mp hc with hc | hc
  · rcases List.mem_append.mp hc with hc | hc
    · rcases List.mem_append.mp hc with hc | hc
      · rcases List.mem_append.mp hc with hc | hc
        · rcases List.mem_cons.mp hc with rfl | hc
          · decide
          · cases hc
        · exact fl_lt (fun _ _ h => tx_m_lt h) _ _ _ hc
      · exact fl_lt (fun _ _ h => tx_w_lt h) _ _ _ hc
    · exact fl_lt (fun _ _ h => tx_b_lt h) _ _ _ hc
  · exact fl_lt (fun _ _ h => tx_o_lt (by omega) h) _ _ _ hc
theorem iv_tell {S : ks_S} (iv : kl_iv S) (x y : Nat) : kl_iv (ks_apps (ks_wipe S) (tx_all x y)) := iv_apps (iv_wipe iv) (fun _ h => tx_all_lt h)
theorem bo_120 {a t : Nat} {S S2 : ks_S} {σ : ce_S} {g : ce_D} (h : bo a t S S2 σ g) : sl S ≤ 120 ∧ sl S2 ≤ 120 := by
  obtain ⟨_, ⟨b, _, h1⟩, ⟨b2, _, h2⟩⟩ := h
  exact ⟨h1.2.2.2.1, h2.2.2.2.1⟩
set_option maxHeartbeats 2000000 in
set_option maxRecDepth 20000 in
theorem t_243 {G : ce_G} {A : Nat → Prop} {p : Program} {e : Env} {s : State} {m : MethodId} {args : Array Value} {below : List Frame} {meth : Method} {c : Code} {Z : State → Prop} {b0 L0 : Nat} {xs : Nat → Int32} (Cx : ce_CL mL_law G A p s m args meth c) (hS : va_X b0 L0 xs s s.heap) (hbl : b0 < s.heap.size) (hbA : ¬ A b0) (hL : L0 ≤ 100000) {a iz xz yz k : Nat} {S : ks_S} {σ : ce_S} {g : ce_D} (hi : iz < 72) (hx : xz < 2147483648) (hy : yz < 2147483648) (hk : k ≤ 500000) (hb : bo a (a + 822) S S σ g) (iv : kl_iv S) (cont : ∀ (kz : Nat) (σ2 : ce_S) (g2 : ce_D) (S2 : ks_S), kz ≤ k + 20 → bo a (a + 822) S2 S2 σ2 g2 → kl_iv S2 → ce_WL mL_law G A p e s m args below meth c Z room_1 (1000 + kz) (12000 + 6 * kz) 271 [some (.ref b0), some (.ref a), some (.ref (a + 411)), some (.int (nI 1)), some (.int (nI iz)), some (.int (nI xz)), some (.int (nI yz))] [] σ2 g2) : ce_WL mL_law G A p e s m args below meth c Z room_1 (1000 + k) (12000 + 6 * k) 243 [some (.ref b0), some (.ref a), some (.ref (a + 411)), some (.int (nI 1)), some (.int (nI iz)), some (.int (nI xz)), some (.int (nI yz))] [] σ g := by
  refine sl_iload_n Cx dL_law_243 rfl ?_
  refine sl_if_eq Cx (tgt := 269) dL_law_244 (by decide) (fun q => absurd q (by decide)) (fun _ => ?_)
  refine sl_iload Cx dL_law_247 rfl ?_
  refine sl_bipush Cx (v := nI 6) dL_law_249 (by decide) ?_
  refine sl_irem Cx (z := nI (iz % 6)) dL_law_251 (nI_ne0 (by omega) (by omega)) (pk_rem (by omega) (by omega) (by omega)) ?_
  refine sl_if_gtN Cx (tgt := 265) dL_law_252 (by decide) rfl (by omega) (fun _ => ?_) (fun _ => ?_)
  · refine sl_iconst Cx (v := nI 1) dL_law_265 (by decide) ?_
    refine sl_goto Cx (tgt := 270) dL_law_266 (by decide) ?_
    refine sl_istore_n Cx dL_law_270 (Nat.le_of_ble_eq_true rfl) rfl ?_
    exact cont k σ g S (by omega) hb iv
  · refine sl_aload_n Cx dL_law_255 rfl ?_
    refine sl_aload_n Cx dL_law_256 rfl ?_
    refine sl_iload Cx dL_law_257 rfl ?_
    refine sl_S Cx dL_law_259 hL_alike kRL_225 (m_L_alike hy hb iv) rfl rfl (by decide) (Nat.le_of_ble_eq_true rfl) (by omega) (fun _ σ1 g1 h1 => ?_)
    obtain ⟨rfl, hb1⟩ := h1
    refine sl_if_eq Cx (tgt := 269) dL_law_262 (by decide) (fun q => absurd q (by decide)) (fun _ => ?_)
    refine sl_iconst Cx (v := nI 1) dL_law_265 (by decide) ?_
    refine sl_goto Cx (tgt := 270) dL_law_266 (by decide) ?_
    refine sl_istore_n Cx dL_law_270 (Nat.le_of_ble_eq_true rfl) rfl ?_
    exact cont _ σ1 g1 S (Nat.le_refl _) hb1 iv
set_option maxHeartbeats 2000000 in
set_option maxRecDepth 20000 in
theorem t_194 {G : ce_G} {A : Nat → Prop} {p : Program} {e : Env} {s : State} {m : MethodId} {args : Array Value} {below : List Frame} {meth : Method} {c : Code} {Z : State → Prop} {b0 L0 : Nat} {xs : Nat → Int32} (Cx : ce_CL mL_law G A p s m args meth c) (hS : va_X b0 L0 xs s s.heap) (hbl : b0 < s.heap.size) (hbA : ¬ A b0) (hL : L0 ≤ 100000) {a iz xz yz k : Nat} {S : ks_S} {σ : ce_S} {g : ce_D} (hi : iz < 72) (hx : xz < 2147483648) (hy : yz < 2147483648) (hk : k ≤ 499900) (hb : bo a (a + 822) S S σ g) (iv : kl_iv S) (cont : ∀ (kz : Nat) (σ2 : ce_S) (g2 : ce_D) (S2 : ks_S), kz ≤ k + 82 → bo a (a + 822) S2 S2 σ2 g2 → kl_iv S2 → ce_WL mL_law G A p e s m args below meth c Z room_1 (1000 + kz) (12000 + 6 * kz) 271 [some (.ref b0), some (.ref a), some (.ref (a + 411)), some (.int (nI 1)), some (.int (nI iz)), some (.int (nI xz)), some (.int (nI yz))] [] σ2 g2) : ce_WL mL_law G A p e s m args below meth c Z room_1 (1000 + k) (12000 + 6 * k) 194 [some (.ref b0), some (.ref a), some (.ref (a + 411)), some (.int (nI 1)), some (.int (nI iz)), some (.int (nI xz)), some (.int (nI yz))] [] σ g := by
  refine sl_iload Cx dL_law_194 rfl ?_
  refine sl_bipush Cx (v := nI 12) dL_law_196 (by decide) ?_
  refine sl_irem Cx (z := nI (iz % 12)) dL_law_198 (nI_ne0 (by omega) (by omega)) (pk_rem (by omega) (by omega) (by omega)) ?_
  refine sl_bipush Cx (v := nI 11) dL_law_199 (by decide) ?_
  refine sl_icmp_neN Cx (tgt := 243) dL_law_201 (by decide) rfl rfl (by omega) (by omega) (fun _ => ?_) (fun _ => ?_)
  · exact t_243 Cx hS hbl hbA hL hi hx hy (by omega) hb iv (fun kz σ2 g2 S2 h1 h2 h3 => cont kz σ2 g2 S2 (by omega) h2 h3)
  · refine sl_iload_n Cx dL_law_204 rfl ?_
    refine sl_if_eq Cx (tgt := 241) dL_law_205 (by decide) (fun q => absurd q (by decide)) (fun _ => ?_)
    refine sl_aload_n Cx dL_law_208 rfl ?_
    refine sl_iload Cx dL_law_209 rfl ?_
    refine sl_S Cx dL_law_211 hL_follows kRL_245 (m_L_follows hy hb.q iv) rfl rfl (by decide) (Nat.le_of_ble_eq_true rfl) (by omega) (fun _ σ1 g1 h1 => ?_)
    obtain ⟨rfl, hq1⟩ := h1
    have hb1 := hb.cq hq1
    refine sl_if_eq Cx (tgt := 241) dL_law_214 (by decide) (fun q => absurd q (by decide)) (fun _ => ?_)
    have v36 : ce_sum (sK S 9) 36 ≤ 360 := kv_cl.b9 iv.ok.1
    refine sl_aload_n Cx dL_law_217 rfl ?_
    refine sl_iconst Cx (v := nI 1) dL_law_218 (by decide) ?_
    refine sl_SW Cx dL_law_219 hL_save kRL_177 (q_save hb1.p iv (s9 := 1) (by decide)) rfl rfl (by decide) (Nat.le_of_ble_eq_true rfl) (by omega) (fun _ σ2 g2 h2 => ?_)
    obtain ⟨rfl, hq2⟩ := h2
    have hb2 := hb1.cp hq2
    refine sl_lconst Cx (v := lN 0) dL_law_222 rfl ?_
    refine sl_lcmp Cx dL_law_223 rfl ?_
    refine sl_if_lt Cx (tgt := 241) dL_law_224 (by decide) (fun q => absurd ((pk_lLT (a := ce_sum (sK S 9) 36) (b := 0) (by omega) (by decide)).mp (ce_lg_lt.1.mp q)) (by omega)) (fun _ => ?_)
    refine sl_aload_n Cx dL_law_227 rfl ?_
    refine sl_iconst Cx (v := nI 1) dL_law_228 (by decide) ?_
    refine sl_SW Cx dL_law_229 hL_restore kRL_179 (q_rest hb2.p (iv_save iv 1) (s9 := 1) (by decide) rfl) rfl rfl (by decide) (Nat.le_of_ble_eq_true rfl) (by omega) (fun _ σ3 g3 h3 => ?_)
    obtain ⟨rfl, hq3⟩ := h3
    have hb3 := hb2.cp hq3
    refine sl_lconst Cx (v := lN 0) dL_law_232 rfl ?_
    refine sl_lcmp Cx dL_law_233 rfl ?_
    refine sl_if_lt Cx (tgt := 241) dL_law_234 (by decide) (fun q => absurd ((pk_lLT (a := ce_sum (sK S 9) 36) (b := 0) (by omega) (by decide)).mp (ce_lg_lt.1.mp q)) (by omega)) (fun _ => ?_)
    refine sl_iconst Cx (v := nI 1) dL_law_237 (by decide) ?_
    refine sl_goto Cx (tgt := 242) dL_law_238 (by decide) ?_
    refine sl_istore_n Cx dL_law_242 (Nat.le_of_ble_eq_true rfl) rfl ?_
    exact t_243 Cx hS hbl hbA hL hi hx hy (by omega) hb3 (iv_rest (iv_save iv 1) (by decide) rfl) (fun kz σ2 g2 S2 h1 h2 h3 => cont kz σ2 g2 S2 (by omega) h2 h3)
set_option maxHeartbeats 2000000 in
set_option maxRecDepth 20000 in
theorem t_162 {G : ce_G} {A : Nat → Prop} {p : Program} {e : Env} {s : State} {m : MethodId} {args : Array Value} {below : List Frame} {meth : Method} {c : Code} {Z : State → Prop} {b0 L0 : Nat} {xs : Nat → Int32} (Cx : ce_CL mL_law G A p s m args meth c) (hS : va_X b0 L0 xs s s.heap) (hbl : b0 < s.heap.size) (hbA : ¬ A b0) (hL : L0 ≤ 100000) {a iz xz yz k : Nat} {S : ks_S} {σ : ce_S} {g : ce_D} (hi : iz < 72) (hx : xz < 2147483648) (hy : yz < 2147483648) (hk : k ≤ 499000) (hb : bo a (a + 822) S S σ g) (iv : kl_iv S) (cont : ∀ (kz : Nat) (σ2 : ce_S) (g2 : ce_D) (S2 : ks_S), kz ≤ k + 482 → bo a (a + 822) S2 S2 σ2 g2 → kl_iv S2 → ce_WL mL_law G A p e s m args below meth c Z room_1 (1000 + kz) (12000 + 6 * kz) 271 [some (.ref b0), some (.ref a), some (.ref (a + 411)), some (.int (nI 1)), some (.int (nI iz)), some (.int (nI xz)), some (.int (nI yz))] [] σ2 g2) : ce_WL mL_law G A p e s m args below meth c Z room_1 (1000 + k) (12000 + 6 * k) 162 [some (.ref b0), some (.ref a), some (.ref (a + 411)), some (.int (nI 1)), some (.int (nI iz)), some (.int (nI xz)), some (.int (nI yz))] [] σ g := by
  refine sl_iload Cx dL_law_162 rfl ?_
  refine sl_bipush Cx (v := nI 6) dL_law_164 (by decide) ?_
  refine sl_irem Cx (z := nI (iz % 6)) dL_law_166 (nI_ne0 (by omega) (by omega)) (pk_rem (by omega) (by omega) (by omega)) ?_
  refine sl_if_neN Cx (tgt := 194) dL_law_167 (by decide) rfl (by omega) (fun _ => ?_) (fun _ => ?_)
  · exact t_194 Cx hS hbl hbA hL hi hx hy (by omega) hb iv (fun kz σ2 g2 S2 h1 h2 h3 => cont kz σ2 g2 S2 (by omega) h2 h3)
  · refine sl_iload_n Cx dL_law_170 rfl ?_
    refine sl_if_eq Cx (tgt := 192) dL_law_171 (by decide) (fun q => absurd q (by decide)) (fun _ => ?_)
    refine sl_aload_n Cx dL_law_174 rfl ?_
    refine sl_S Cx dL_law_175 hL_errors kRL_229 (m_L_errors hb.q iv) rfl rfl (by decide) (Nat.le_of_ble_eq_true rfl) (by omega) (fun _ σ1 g1 h1 => ?_)
    obtain ⟨rfl, hq1⟩ := h1
    have hb1 := hb.cq hq1
    refine sl_if_eq Cx (tgt := 192) dL_law_178 (by decide) (fun q => absurd q (by decide)) (fun _ => ?_)
    refine sl_aload_n Cx dL_law_181 rfl ?_
    have ht : a + 411 + 411 ≤ σ1.1 := hb1.1
    refine sl_S Cx dL_law_182 hL_kept kRL_233 (m_L_kept hb1.q iv ht) rfl rfl (by decide) (Nat.le_of_ble_eq_true rfl) (by omega) (fun _ σ2 g2 h2 => ?_)
    obtain ⟨rfl, hq2⟩ := h2
    have hb2 := hb1.cq hq2
    refine sl_if_eq Cx (tgt := 192) dL_law_185 (by decide) (fun q => absurd q (by decide)) (fun _ => ?_)
    refine sl_iconst Cx (v := nI 1) dL_law_188 (by decide) ?_
    refine sl_goto Cx (tgt := 193) dL_law_189 (by decide) ?_
    refine sl_istore_n Cx dL_law_193 (Nat.le_of_ble_eq_true rfl) rfl ?_
    exact t_194 Cx hS hbl hbA hL hi hx hy (by omega) hb2 iv (fun kz σ2 g2 S2 h1 h2 h3 => cont kz σ2 g2 S2 (by omega) h2 h3)
set_option maxHeartbeats 2000000 in
set_option maxRecDepth 20000 in
theorem t_136 {G : ce_G} {A : Nat → Prop} {p : Program} {e : Env} {s : State} {m : MethodId} {args : Array Value} {below : List Frame} {meth : Method} {c : Code} {Z : State → Prop} {b0 L0 : Nat} {xs : Nat → Int32} (Cx : ce_CL mL_law G A p s m args meth c) (hS : va_X b0 L0 xs s s.heap) (hbl : b0 < s.heap.size) (hbA : ¬ A b0) (hL : L0 ≤ 100000) {a iz xz yz k : Nat} {S : ks_S} {σ : ce_S} {g : ce_D} (hi : iz < 72) (hx : xz < 2147483648) (hy : yz < 2147483648) (hk : k ≤ 498000) (hb : bo a (a + 822) S S σ g) (iv : kl_iv S) (cont : ∀ (kz : Nat) (σ2 : ce_S) (g2 : ce_D) (S2 : ks_S), kz ≤ k + 484 → bo a (a + 822) S2 S2 σ2 g2 → kl_iv S2 → ce_WL mL_law G A p e s m args below meth c Z room_1 (1000 + kz) (12000 + 6 * kz) 271 [some (.ref b0), some (.ref a), some (.ref (a + 411)), some (.int (nI 1)), some (.int (nI iz)), some (.int (nI xz)), some (.int (nI yz))] [] σ2 g2) : ce_WL mL_law G A p e s m args below meth c Z room_1 (1000 + k) (12000 + 6 * k) 136 [some (.ref b0), some (.ref a), some (.ref (a + 411)), some (.int (nI 1)), some (.int (nI iz)), some (.int (nI xz)), some (.int (nI yz))] [] σ g := by
  obtain ⟨V, S9, iv9, hh⟩ := o_act hx hy iv
  refine sl_aload_n Cx dL_law_136 rfl ?_
  refine sl_iload Cx dL_law_137 rfl ?_
  refine sl_iload Cx dL_law_139 rfl ?_
  refine sl_S Cx dL_law_141 hL_act kRL_242 (hh σ σ g g a hb.p) rfl rfl (by decide) (Nat.le_of_ble_eq_true rfl) (by omega) (fun _ σ1 g1 h1 => ?_)
  obtain ⟨rfl, hq1⟩ := h1
  have hb1 := hb.cp hq1
  refine sl_aload_n Cx dL_law_144 rfl ?_
  refine sl_iload Cx dL_law_145 rfl ?_
  refine sl_iload Cx dL_law_147 rfl ?_
  refine sl_S Cx dL_law_149 hL_act kRL_242 (hh σ1 σ1 g1 g1 (a + 411) hb1.q) rfl rfl (by decide) (Nat.le_of_ble_eq_true rfl) (by omega) (fun _ σ2 g2 h2 => ?_)
  obtain ⟨rfl, hq2⟩ := h2
  have hb2 := hb1.cq hq2
  refine sl_lcmp Cx dL_law_152 rfl ?_
  refine sl_if_ne Cx (tgt := 160) dL_law_153 (by decide) (fun q => absurd (ce_lg_lt.2.1.mpr rfl) q) (fun _ => ?_)
  refine sl_iconst Cx (v := nI 1) dL_law_156 (by decide) ?_
  refine sl_goto Cx (tgt := 161) dL_law_157 (by decide) ?_
  refine sl_istore_n Cx dL_law_161 (Nat.le_of_ble_eq_true rfl) rfl ?_
  exact t_162 Cx hS hbl hbA hL hi hx hy (by omega) hb2 iv9 (fun kz σ2 g2 S2 h1 h2 h3 => cont kz σ2 g2 S2 (by omega) h2 h3)
set_option maxHeartbeats 2000000 in
set_option maxRecDepth 20000 in
theorem t_93 {G : ce_G} {A : Nat → Prop} {p : Program} {e : Env} {s : State} {m : MethodId} {args : Array Value} {below : List Frame} {meth : Method} {c : Code} {Z : State → Prop} {b0 L0 : Nat} {xs : Nat → Int32} (Cx : ce_CL mL_law G A p s m args meth c) (hS : va_X b0 L0 xs s s.heap) (hbl : b0 < s.heap.size) (hbA : ¬ A b0) (hL : L0 ≤ 100000) {a iz xz yz k : Nat} {S : ks_S} {σ : ce_S} {g : ce_D} (hi : iz < 72) (hx : xz < 2147483648) (hy : yz < 2147483648) (hk : k ≤ 500000) (hb : bo a (a + 822) S S σ g) (iv : kl_iv S) (cont : ∀ (kz : Nat) (σ2 : ce_S) (g2 : ce_D) (S2 : ks_S), kz ≤ k + 484 → bo a (a + 822) S2 S2 σ2 g2 → kl_iv S2 → ce_WL mL_law G A p e s m args below meth c Z room_1 (1000 + kz) (12000 + 6 * kz) 271 [some (.ref b0), some (.ref a), some (.ref (a + 411)), some (.int (nI 1)), some (.int (nI iz)), some (.int (nI xz)), some (.int (nI yz))] [] σ2 g2) : ce_WL mL_law G A p e s m args below meth c Z room_1 (1000 + k) (12000 + 6 * k) 93 [some (.ref b0), some (.ref a), some (.ref (a + 411)), some (.int (nI 1)), some (.int (nI iz)), some (.int (nI xz)), some (.int (nI yz))] [] σ g := by
  have l1 := (bo_120 hb).1
  have iv1 := iv_tell iv xz yz
  refine sl_aload_n Cx dL_law_93 rfl ?_
  refine sl_iload Cx dL_law_94 rfl ?_
  refine sl_iload Cx dL_law_96 rfl ?_
  refine sl_S Cx dL_law_98 hL_tells kRL_236 (m_L_tells hx hy hb.p iv l1) rfl rfl (by decide) (Nat.le_of_ble_eq_true rfl) (by omega) (fun _ σ1 g1 h1 => ?_)
  obtain ⟨rfl, hq1⟩ := h1
  have hb1 := hb.cp hq1
  refine sl_if_eq Cx (tgt := 131) dL_law_101 (by decide) (fun q => absurd q (by decide)) (fun _ => ?_)
  refine sl_aload_n Cx dL_law_104 rfl ?_
  refine sl_iload Cx dL_law_105 rfl ?_
  refine sl_iload Cx dL_law_107 rfl ?_
  refine sl_S Cx dL_law_109 hL_tells kRL_236 (m_L_tells hx hy hb1.q iv l1) rfl rfl (by decide) (Nat.le_of_ble_eq_true rfl) (by omega) (fun _ σ2 g2 h2 => ?_)
  obtain ⟨rfl, hq2⟩ := h2
  have hb2 := hb1.cq hq2
  refine sl_if_eq Cx (tgt := 131) dL_law_112 (by decide) (fun q => absurd q (by decide)) (fun _ => ?_)
  obtain ⟨V, S9, iv9, hh⟩ := o_load iv1
  refine sl_aload_n Cx dL_law_115 rfl ?_
  refine sl_SW Cx dL_law_116 hL_load kRL_240 (hh σ2 σ2 g2 g2 a hb2.p) rfl rfl (by decide) (Nat.le_of_ble_eq_true rfl) (by omega) (fun _ σ3 g3 h3 => ?_)
  obtain ⟨rfl, hq3⟩ := h3
  have hb3 := hb2.cp hq3
  refine sl_aload_n Cx dL_law_119 rfl ?_
  refine sl_SW Cx dL_law_120 hL_load kRL_240 (hh σ3 σ3 g3 g3 (a + 411) hb3.q) rfl rfl (by decide) (Nat.le_of_ble_eq_true rfl) (by omega) (fun _ σ4 g4 h4 => ?_)
  obtain ⟨rfl, hq4⟩ := h4
  have hb4 := hb3.cq hq4
  refine sl_lcmp Cx dL_law_123 rfl ?_
  refine sl_if_ne Cx (tgt := 131) dL_law_124 (by decide) (fun q => absurd (ce_lg_lt.2.1.mpr rfl) q) (fun _ => ?_)
  refine sl_iconst Cx (v := nI 1) dL_law_127 (by decide) ?_
  refine sl_goto Cx (tgt := 132) dL_law_128 (by decide) ?_
  refine sl_istore_n Cx dL_law_132 (Nat.le_of_ble_eq_true rfl) rfl ?_
  refine sl_goto Cx (tgt := 271) dL_law_133 (by decide) ?_
  exact cont _ σ4 g4 S9 (by omega) hb4 iv9
set_option maxHeartbeats 2000000 in
set_option maxRecDepth 20000 in
theorem w_law {G : ce_G} {A : Nat → Prop} {p : Program} {e : Env} {s : State} {m : MethodId} {args : Array Value} {below : List Frame} {meth : Method} {c : Code} {Z : State → Prop} {b0 L0 : Nat} {xs : Nat → Int32} (Cx : ce_CL mL_law G A p s m args meth c) (hS : va_X b0 L0 xs s s.heap) (hbl : b0 < s.heap.size) (hbA : ¬ A b0) (hL : L0 ≤ 100000) (fin : ∀ (kz : Nat) (σ : ce_S) (g : ce_D) (L : List (Option Value)), kz ≤ 590000 → ce_WL mL_law G A p e s m args below meth c Z room_1 (1000 + kz) (12000 + 6 * kz) 296 L [.int 1] σ g) {a : Nat} : ∀ (n9 iz k : Nat) (σ : ce_S) (g : ce_D) (S : ks_S), 72 - iz < n9 → iz ≤ 72 → k ≤ 420 + 500 * iz → bo a (a + 822) S S σ g → kl_iv S → ce_WL mL_law G A p e s m args below meth c Z room_1 (1000 + k) (12000 + 6 * k) 52 [some (.ref b0), some (.ref a), some (.ref (a + 411)), some (.int (nI 1)), some (.int (nI (iz))), none, none] [] σ g := by
  intro n9
  induction n9 with
  | zero =>
    intros
    omega
  | succ n9 ih =>
    intro iz k σ g S hn hi hk hb iv
    refine sl_iload Cx dL_law_52 rfl ?_
    refine sl_bipush Cx (v := nI 72) dL_law_54 (by decide) ?_
    refine sl_icmp_geN Cx (tgt := 277) dL_law_56 (by decide) rfl rfl (by omega) (by omega) (fun q => ?_) (fun q => ?_)
    · refine sl_iload_n Cx dL_law_277 rfl ?_
      refine sl_if_eq Cx (tgt := 295) dL_law_278 (by decide) (fun q => absurd q (by decide)) (fun _ => ?_)
      refine sl_aload_n Cx dL_law_281 rfl ?_
      refine sl_aload_n Cx dL_law_282 rfl ?_
      refine sl_ldc Cx (v := nI 83003) dL_law_283 kRL_248 ?_
      refine sl_S Cx dL_law_285 hL_alike kRL_225 (m_L_alike (xz := 83003) (by decide) hb iv) rfl rfl (by decide) (Nat.le_of_ble_eq_true rfl) (by omega) (fun _ σ1 g1 h1 => ?_)
      obtain ⟨rfl, hb1⟩ := h1
      refine sl_if_eq Cx (tgt := 295) dL_law_288 (by decide) (fun q => absurd q (by decide)) (fun _ => ?_)
      refine sl_iconst Cx (v := 1) dL_law_291 (by decide) ?_
      refine sl_goto Cx (tgt := 296) dL_law_292 (by decide) ?_
      exact fin _ σ1 g1 _ (by omega)
    · refine sl_iload_n Cx dL_law_59 rfl ?_
      refine sl_if_eq Cx (tgt := 277) dL_law_60 (by decide) (fun q => absurd q (by decide)) (fun _ => ?_)
      refine sl_aload_n Cx dL_law_63 rfl ?_
      refine sl_iconst Cx (v := nI 2) dL_law_64 (by decide) ?_
      refine sl_iload Cx dL_law_65 rfl ?_
      refine sl_imul Cx (z := nI (2 * iz)) dL_law_67 (pk_mul _ _) ?_
      refine sl_draw Cx hS hbl hbA hL (kz := 2 * iz) (by omega) (by omega) dL_law_68 (Nat.le_of_ble_eq_true rfl) (fun xz hx => ?_)
      refine sl_istore Cx dL_law_71 (Nat.le_of_ble_eq_true rfl) rfl ?_
      refine sl_aload_n Cx dL_law_73 rfl ?_
      refine sl_iconst Cx (v := nI 2) dL_law_74 (by decide) ?_
      refine sl_iload Cx dL_law_75 rfl ?_
      refine sl_imul Cx (z := nI (2 * iz)) dL_law_77 (pk_mul _ _) ?_
      refine sl_iconst Cx (v := nI 1) dL_law_78 (by decide) ?_
      refine sl_iadd Cx (z := nI ((2 * iz) + 1)) dL_law_79 (nI_add _ _) ?_
      refine sl_draw Cx hS hbl hbA hL (kz := 2 * iz + 1) (by omega) (by omega) dL_law_80 (Nat.le_of_ble_eq_true rfl) (fun yz hy => ?_)
      refine sl_istore Cx dL_law_83 (Nat.le_of_ble_eq_true rfl) rfl ?_
      refine sl_iload Cx dL_law_85 rfl ?_
      refine sl_bipush Cx (v := nI 36) dL_law_87 (by decide) ?_
      refine sl_irem Cx (z := nI (iz % 36)) dL_law_89 (nI_ne0 (by omega) (by omega)) (pk_rem (by omega) (by omega) (by omega)) ?_
      have cont : ∀ (kz : Nat) (σ2 : ce_S) (g2 : ce_D) (S2 : ks_S), kz ≤ k + 484 → bo a (a + 822) S2 S2 σ2 g2 → kl_iv S2 → ce_WL mL_law G A p e s m args below meth c Z room_1 (1000 + kz) (12000 + 6 * kz) 271 [some (.ref b0), some (.ref a), some (.ref (a + 411)), some (.int (nI 1)), some (.int (nI iz)), some (.int (nI xz)), some (.int (nI yz))] [] σ2 g2 := fun kz σ2 g2 S2 h1 h2 h3 => by
        refine sl_iinc Cx (v := nI (iz + 1)) dL_law_271 rfl (ce_inc1 _) (Nat.le_of_ble_eq_true rfl) rfl ?_
        refine sl_goto Cx (tgt := 52) dL_law_274 (by decide) ?_
        refine sl_drop (L' := [some (.ref b0), some (.ref a), some (.ref (a + 411)), some (.int (nI 1)), some (.int (nI (iz + 1))), none, none]) (ce_le_s rfl (ce_le_s rfl (ce_le_s rfl (ce_le_s rfl (ce_le_s rfl (ce_le_n (ce_le_n ce_le_e))))))) ?_
        exact ih (iz + 1) kz σ2 g2 S2 (by omega) (by omega) (by omega) h2 h3
      refine sl_if_neN Cx (tgt := 136) dL_law_90 (by decide) rfl (by omega) (fun _ => ?_) (fun _ => ?_)
      · exact t_136 Cx hS hbl hbA hL q hx hy (by omega) hb iv cont
      · exact t_93 Cx hS hbl hbA hL q hx hy (by omega) hb iv cont
set_option maxHeartbeats 2000000 in
set_option maxRecDepth 20000 in
theorem law_0 {G : ce_G} {A : Nat → Prop} {p : Program} {e : Env} {s : State} {m : MethodId} {args : Array Value} {below : List Frame} {meth : Method} {c : Code} {Z : State → Prop} {b0 L0 : Nat} {xs : Nat → Int32} (Cx : ce_CL mL_law G A p s m args meth c) (hS : va_X b0 L0 xs s s.heap) (hbl : b0 < s.heap.size) (hbA : ¬ A b0) (hL : L0 ≤ 100000) (fin : ∀ (kz : Nat) (σ : ce_S) (g : ce_D) (L : List (Option Value)), kz ≤ 590000 → ce_WL mL_law G A p e s m args below meth c Z room_1 (1000 + kz) (12000 + 6 * kz) 296 L [.int 1] σ g) (σ0 : ce_S) (g0 : ce_D) : ce_WL mL_law G A p e s m args below meth c Z room_1 0 0 0 [some (.ref b0), none, none, none, none, none, none] [] σ0 g0 := by
  obtain ⟨a, ha⟩ : ∃ a, σ0.1 = a := ⟨_, rfl⟩
  refine sl_new Cx (ci := 7) dL_law_0 kRL_10 wi_X7 wn_X7 rfl (Nat.le_of_ble_eq_true rfl) (Nat.le_of_ble_eq_true rfl) ?_
  have n1 : ci_sh (ce_nw σ0 (7 + 1) 0) (ce_nd σ0 g0) a (ci_o 8) 1 := sh_new1 _ ha
  rw [ha]
  generalize ce_nw σ0 (7 + 1) 0 = u1 at n1 ⊢
  generalize ce_nd σ0 g0 = v1 at n1 ⊢
  refine sl_dup Cx dL_law_3 rfl ?_
  refine sl_callI Cx dL_law_4 hX7_init kRL_220 (m_X7_init a n1) rfl rfl (by decide) (Nat.le_of_ble_eq_true rfl) (Nat.le_of_ble_eq_true rfl) (Nat.le_of_ble_eq_true rfl) (fun v s1 g1 h1 => ?_)
  obtain ⟨rfl, T1, X1, R1, _⟩ := h1
  refine sl_astore_n Cx dL_law_7 (Nat.le_of_ble_eq_true rfl) rfl ?_
  refine sl_new Cx (ci := 7) dL_law_8 kRL_10 wi_X7 wn_X7 rfl (Nat.le_of_ble_eq_true rfl) (Nat.le_of_ble_eq_true rfl) ?_
  have n2 : ci_sh (ce_nw s1 (7 + 1) 0) (ce_nd s1 g1) (a + 411) (ci_o 8) 1 := sh_new1 _ T1
  have b2 : ci_sb (a + 411) s1 g1 (ce_nw s1 (7 + 1) 0) (ce_nd s1 g1) := ci_sb.nw (by omega)
  rw [T1]
  generalize ce_nw s1 (7 + 1) 0 = u2 at n2 b2 ⊢
  generalize ce_nd s1 g1 = v2 at n2 b2 ⊢
  refine sl_dup Cx dL_law_11 rfl ?_
  refine sl_callI Cx dL_law_12 hX7_init kRL_220 (m_X7_init (a + 411) n2) rfl rfl (by decide) (Nat.le_of_ble_eq_true rfl) (Nat.le_of_ble_eq_true rfl) (Nat.le_of_ble_eq_true rfl) (fun v s2 g2 h2 => ?_)
  obtain ⟨rfl, T2, X2, R2, k2⟩ := h2
  have b3 := b2.tr k2
  refine sl_astore_n Cx dL_law_15 (Nat.le_of_ble_eq_true rfl) rfl ?_
  refine sl_widen (kc' := 1000 + 0) (ks' := 12000 + 6 * 0) (Nat.le_of_ble_eq_true rfl) (Nat.le_of_ble_eq_true rfl) ?_
  have hb : bo a (a + 822) ks_0 ks_0 s2 g2 := ⟨Nat.le_of_eq T2.symm, ⟨_, LX_sb X1 b3 (Nat.le_refl _), rX_far R1 X1.2.2.2.1.2.2.2 (fun x _ h2 => (b3 x h2).2.2.2.2)⟩, ⟨_, X2, R2⟩⟩
  refine sl_aload_n Cx dL_law_16 rfl ?_
  refine sl_aload_n Cx dL_law_17 rfl ?_
  refine sl_aload_n Cx dL_law_18 rfl ?_
  refine sl_iconst Cx (v := nI 0) dL_law_19 (by decide) ?_
  refine sl_draw Cx hS hbl hbA hL (kz := 0) (by decide) (by decide) dL_law_20 (Nat.le_of_ble_eq_true rfl) (fun xz hx => ?_)
  refine sl_S Cx dL_law_23 hL_alike kRL_225 (m_L_alike hx hb iv_0) rfl rfl (by decide) (Nat.le_of_ble_eq_true rfl) (by omega) (fun _ s3 g3 h3 => ?_)
  obtain ⟨rfl, hb3⟩ := h3
  refine sl_if_eq Cx (tgt := 47) dL_law_26 (by decide) (fun q => absurd q (by decide)) (fun _ => ?_)
  refine sl_aload_n Cx dL_law_29 rfl ?_
  refine sl_S Cx dL_law_30 hL_errors kRL_229 (m_L_errors hb3.p iv_0) rfl rfl (by decide) (Nat.le_of_ble_eq_true rfl) (by omega) (fun _ s4 g4 h4 => ?_)
  obtain ⟨rfl, hq4⟩ := h4
  have hb4 := hb3.cp hq4
  refine sl_if_eq Cx (tgt := 47) dL_law_33 (by decide) (fun q => absurd q (by decide)) (fun _ => ?_)
  refine sl_aload_n Cx dL_law_36 rfl ?_
  have ht : a + 411 ≤ s4.1 := by
    have := hb4.1
    omega
  refine sl_S Cx dL_law_37 hL_kept kRL_233 (m_L_kept hb4.p iv_0 ht) rfl rfl (by decide) (Nat.le_of_ble_eq_true rfl) (by omega) (fun _ s5 g5 h5 => ?_)
  obtain ⟨rfl, hq5⟩ := h5
  have hb5 := hb4.cp hq5
  refine sl_if_eq Cx (tgt := 47) dL_law_40 (by decide) (fun q => absurd q (by decide)) (fun _ => ?_)
  refine sl_iconst Cx (v := nI 1) dL_law_43 (by decide) ?_
  refine sl_goto Cx (tgt := 48) dL_law_44 (by decide) ?_
  refine sl_istore_n Cx dL_law_48 (Nat.le_of_ble_eq_true rfl) rfl ?_
  refine sl_iconst Cx (v := nI 0) dL_law_49 (by decide) ?_
  refine sl_istore Cx dL_law_50 (Nat.le_of_ble_eq_true rfl) rfl ?_
  exact w_law Cx hS hbl hbA hL fin (72 + 1) 0 _ s5 g5 ks_0 (by omega) (Nat.zero_le _) (by omega) hb5 iv_0
