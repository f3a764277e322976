theorem lg_irr (p : Int64) : ¬ p < p := fun h => by
  have := Int64.lt_iff_toInt_lt.mp h
  omega
theorem kc_Sp {ρ : Room} {Y Y' : ce_Y} {k pc n idx d8 : Nat} {L : List (Option Value)} {σ : ce_S} {g : ce_D} {Q : Option Value → ce_S → ce_D → Prop} {X : String → ce_S → ce_D → Prop} {stk As rest : List Value} {V : Int32} (d : decode Y.2.1 pc = .ok (.invokestatic idx, 3)) (hY : ce_MS Y' n) (hl : Cond.methodLink Y.1.cls idx Y'.1 ∈ lw_tbl) (hC : ce_CT (ce_r d8) Y' As σ g (ce_pv V σ g) ce_no) (hst : stk = As.reverse ++ rest) (hn : As.length = n)
    (hR : ce_rm ρ (ce_r d8) Y'.2.2.1) (hrest : (rest.map fun v => v.category).sum ≤ 8) (hs : ρ.slots = 6 * ρ.cells) (hcc : k ≤ ρ.cells)
    (kk : ce_WP ρ Y k (6 * k) (pc + 3) L (.int V :: rest) σ g Q X) : ce_WP ρ Y k (6 * k) pc L stk σ g Q X :=
  ce_callS d hY hl hC hst hn hR hrest hcc (by rw [hs]; show 6 * k + 0 ≤ _; omega) (fun v σ' g' h => by
    obtain ⟨rfl, rfl, rfl⟩ := h
    exact kk)

set_option maxHeartbeats 2000000 in
set_option maxRecDepth 20000 in
theorem m_L_in {σ : ce_S} {g : ce_D} (v lo hi : Nat) (h1 : lo ≤ v) (h2 : v ≤ hi) (h3 : hi < 1000000) : ce_CT (ce_r 0) mL_in [.long (lN (v)), .long (lN (lo)), .long (lN (hi))] σ g (ce_pv (nI 1) σ g) ce_no := by
  refine ce_enter (by decide) rfl (Nat.le_of_ble_eq_true rfl) (L := [some (.long (lN (v))), none, some (.long (lN (lo))), none, some (.long (lN (hi))), none]) rfl ?_
  refine ce_lload_n dL_in_0 rfl ?_
  refine ce_lload_n dL_in_1 rfl ?_
  refine ce_lcmp (z := lg_cmp (lN (v)) (lN (lo))) dL_in_2 rfl ?_
  refine ce_if_ltL (a := v) (b := lo) (tgt := 17) dL_in_3 (by decide) rfl (by omega) (by omega) (fun c_3 => ?_) (fun c_3 => ?_)
  · omega
  · refine ce_lload_n dL_in_6 rfl ?_
    refine ce_lload dL_in_7 rfl ?_
    refine ce_lcmp (z := lg_cmp (lN (v)) (lN (hi))) dL_in_9 rfl ?_
    refine ce_if_gtL (a := v) (b := hi) (tgt := 17) dL_in_10 (by decide) rfl (by omega) (by omega) (fun c_10 => ?_) (fun c_10 => ?_)
    · omega
    · refine ce_iconst (v := nI (1)) dL_in_13 (by decide) ?_
      refine ce_goto (tgt := 18) dL_in_14 (by decide) ?_
      exact ce_iret dL_in_18 rfl rfl (by decide) (by decide) ⟨rfl, rfl, rfl⟩
/-- a number of what is asked, as it stands -/
def ka (K : ce_V) (O : Nat → Int32) : Nat → Int32
  | 0 => nI (K 0 0)
  | 1 => nI (K 0 1)
  | 2 => nI (K 0 2)
  | 3 => nI (ce_sum (K 9) 36)
  | 4 => nI (ce_sum (K 10) 36)
  | 5 => nI (ce_sum (K 6) 6)
  | 6 => nI (ce_sum (K 4) 6)
  | 7 => ce_isum O 6
  | 8 => nI (kv_emp K (K 0 2))
  | _ => nI (ce_sum (fun b => K 11 b - K 12 b) (K 0 2))
def km (K : ce_V) (O : Nat → Int32) (m : Nat) : Nat → Int32
  | 0 => nI (K 1 m)
  | 1 => O m
  | 2 => nI (ce_sum (fun w => K 9 (m * 6 + w)) 6)
  | _ => nI (ce_sum (fun w => K 10 (m * 6 + w)) 6)
def kwn (K : ce_V) (w : Nat) : Nat → Int32
  | 0 => nI (K 2 w)
  | 1 => nI (K 3 w)
  | 2 => nI (K 4 w)
  | 3 => nI (K 5 w)
  | 4 => nI (kv_sum K 9 w)
  | 5 => nI (kv_sum K 10 w)
  | 6 => nI (K 6 w)
  | 7 => nI (kv_sum K 8 w)
  | _ => nI (kv_sum K 7 w)
def kbn (K : ce_V) (i : Nat) : Nat → Int32
  | 0 => nI (K 11 i)
  | 1 => ce_wi K i
  | _ => nI (K 12 i)
def khn (K : ce_V) (m w : Nat) : Nat → Int32
  | 0 => nI (K 7 (m * 6 + w))
  | 1 => nI (K 8 (m * 6 + w))
  | _ => nI (K 9 (m * 6 + w))
theorem qn_about {a : Nat} {S : ks_S} {σ0 σ : ce_S} {g0 g : ce_D} (hw : kw a S σ0 g0 σ g) (iv : kl_iv S) {k : Nat} (hk : k ≤ 9) : ce_CT (ce_rl 0 0) mL_about [.ref a, .int (nI k)] σ g (ce_jv (ka (sK S) (sO S) k).toInt64 σ g) ce_no := by
  have hc : k = 0 ∨ k = 1 ∨ k = 2 ∨ k = 3 ∨ k = 4 ∨ k = 5 ∨ k = 6 ∨ k = 7 ∨ k = 8 ∨ k = 9 := by omega
  rcases hc with rfl | rfl | rfl | rfl | rfl | rfl | rfl | rfl | rfl | rfl
  · exact h_about_p  (nI 0) hw (fun b hX hr => m_X7_about_ok0 a b S hX hr iv.ok)
  · exact h_about_p  (nI 1) hw (fun b hX hr => m_X7_about_ok1 a b S hX hr iv.ok)
  · exact h_about_p  (nI 2) hw (fun b hX hr => m_X7_about_ok2 a b S hX hr iv.ok)
  · exact h_about_p  (nI 3) hw (fun b hX hr => m_X7_about_ok3 a b S hX hr iv.ok)
  · exact h_about_p  (nI 4) hw (fun b hX hr => m_X7_about_ok4 a b S hX hr iv.ok)
  · exact h_about_p  (nI 5) hw (fun b hX hr => m_X7_about_ok5 a b S hX hr iv.ok)
  · exact h_about_p  (nI 6) hw (fun b hX hr => m_X7_about_ok6 a b S hX hr iv.ok)
  · exact h_about_p  (nI 7) hw (fun b hX hr => m_X7_about_ok7 a b S hX hr iv.ok)
  · exact h_about_p  (nI 8) hw (fun b hX hr => m_X7_about_ok8 a b S hX hr iv.ok)
  · exact h_about_p  (nI 9) hw (fun b hX hr => m_X7_about_ok9 a b S hX hr iv.ok)
theorem qn_member {a : Nat} {S : ks_S} {σ0 σ : ce_S} {g0 g : ce_D} (hw : kw a S σ0 g0 σ g) (iv : kl_iv S) {m : Nat} (hm : m < sK S 0 0) {k : Nat} (hk : k ≤ 3) : ce_CT (ce_rl 0 0) mL_member [.ref a, .int (nI m), .int (nI k)] σ g (ce_jv (km (sK S) (sO S) m k).toInt64 σ g) ce_no := by
  have hc : k = 0 ∨ k = 1 ∨ k = 2 ∨ k = 3 := by omega
  rcases hc with rfl | rfl | rfl | rfl
  · exact h_member_p (nI m) (nI 0) hw (fun b hX hr => m_X7_member_ok0 a b S hX hr iv.ok m hm)
  · exact h_member_p (nI m) (nI 1) hw (fun b hX hr => m_X7_member_ok1 a b S hX hr iv.ok m hm)
  · exact h_member_p (nI m) (nI 2) hw (fun b hX hr => m_X7_member_ok2 a b S hX hr iv.ok m hm)
  · exact h_member_p (nI m) (nI 3) hw (fun b hX hr => m_X7_member_ok3 a b S hX hr iv.ok m hm)
theorem qn_wine {a : Nat} {S : ks_S} {σ0 σ : ce_S} {g0 g : ce_D} (hw : kw a S σ0 g0 σ g) (iv : kl_iv S) {w : Nat} (hw6 : w < sK S 0 1) {k : Nat} (hk : k ≤ 8) : ce_CT (ce_rl 0 0) mL_wine [.ref a, .int (nI w), .int (nI k)] σ g (ce_jv (kwn (sK S) w k).toInt64 σ g) ce_no := by
  have hc : k = 0 ∨ k = 1 ∨ k = 2 ∨ k = 3 ∨ k = 4 ∨ k = 5 ∨ k = 6 ∨ k = 7 ∨ k = 8 := by omega
  rcases hc with rfl | rfl | rfl | rfl | rfl | rfl | rfl | rfl | rfl
  · exact h_wine_p (nI w) (nI 0) hw (fun b hX hr => m_X7_wine_ok0 a b S hX hr iv.ok w hw6)
  · exact h_wine_p (nI w) (nI 1) hw (fun b hX hr => m_X7_wine_ok1 a b S hX hr iv.ok w hw6)
  · exact h_wine_p (nI w) (nI 2) hw (fun b hX hr => m_X7_wine_ok2 a b S hX hr iv.ok w hw6)
  · exact h_wine_p (nI w) (nI 3) hw (fun b hX hr => m_X7_wine_ok3 a b S hX hr iv.ok w hw6)
  · exact h_wine_p (nI w) (nI 4) hw (fun b hX hr => m_X7_wine_ok4 a b S hX hr iv.ok w hw6)
  · exact h_wine_p (nI w) (nI 5) hw (fun b hX hr => m_X7_wine_ok5 a b S hX hr iv.ok w hw6)
  · exact h_wine_p (nI w) (nI 6) hw (fun b hX hr => m_X7_wine_ok6 a b S hX hr iv.ok w hw6)
  · exact h_wine_p (nI w) (nI 7) hw (fun b hX hr => m_X7_wine_ok7 a b S hX hr iv.ok w hw6)
  · exact h_wine_p (nI w) (nI 8) hw (fun b hX hr => m_X7_wine_ok8 a b S hX hr iv.ok w hw6)
theorem qn_bin {a : Nat} {S : ks_S} {σ0 σ : ce_S} {g0 g : ce_D} (hw : kw a S σ0 g0 σ g) (iv : kl_iv S) {i : Nat} (hi : i < sK S 0 2) {k : Nat} (hk : k ≤ 2) : ce_CT (ce_rl 0 0) mL_bin [.ref a, .int (nI i), .int (nI k)] σ g (ce_jv (kbn (sK S) i k).toInt64 σ g) ce_no := by
  have hc : k = 0 ∨ k = 1 ∨ k = 2 := by omega
  rcases hc with rfl | rfl | rfl
  · exact h_bin_p (nI i) (nI 0) hw (fun b hX hr => m_X7_bin_ok0 a b S hX hr iv.ok i hi)
  · exact h_bin_p (nI i) (nI 1) hw (fun b hX hr => m_X7_bin_ok1 a b S hX hr iv.ok i hi)
  · exact h_bin_p (nI i) (nI 2) hw (fun b hX hr => m_X7_bin_ok2 a b S hX hr iv.ok i hi)
theorem qn_has {a : Nat} {S : ks_S} {σ0 σ : ce_S} {g0 g : ce_D} (hw : kw a S σ0 g0 σ g) (iv : kl_iv S) {m w : Nat} (hm : m < sK S 0 0) (hw6 : w < sK S 0 1) {k : Nat} (hk : k ≤ 2) : ce_CT (ce_rl 0 0) mL_has [.ref a, .int (nI m), .int (nI w), .int (nI k)] σ g (ce_jv (khn (sK S) m w k).toInt64 σ g) ce_no := by
  have hc : k = 0 ∨ k = 1 ∨ k = 2 := by omega
  rcases hc with rfl | rfl | rfl
  · exact h_has_p (nI m) (nI w) (nI 0) hw (fun b hX hr => m_X7_has_ok0 a b S hX hr iv.ok m w hm hw6)
  · exact h_has_p (nI m) (nI w) (nI 1) hw (fun b hX hr => m_X7_has_ok1 a b S hX hr iv.ok m w hm hw6)
  · exact h_has_p (nI m) (nI w) (nI 2) hw (fun b hX hr => m_X7_has_ok2 a b S hX hr iv.ok m w hm hw6)
/-- all that is told of a club, as one number -/
def nh (f : Nat → Int64) : Nat → Int64 → Int64
  | 0, v => v
  | n + 1, v => lN 31 * nh f n v + f n
def nm (K : ce_V) (O : Nat → Int32) : Nat → Int64 → Int64
  | 0, v => v
  | m + 1, v => nh (fun k => (khn K m (k / 3) (k % 3)).toInt64) (3 * K 0 1) (nh (fun k => (km K O m k).toInt64) 4 (nm K O m v))
def nw (K : ce_V) (O : Nat → Int32) : Int64 := nh (fun k => (kbn K (k / 3) (k % 3)).toInt64) (3 * K 0 2) (nh (fun k => (kwn K (k / 9) (k % 9)).toInt64) (9 * K 0 1) (nm K O (K 0 0) (nh (fun k => (ka K O k).toInt64) 10 (lN 53))))
set_option maxHeartbeats 2000000 in
set_option maxRecDepth 20000 in
theorem now_1 {a : Nat} {S : ks_S} {σ0 σ : ce_S} {g0 g : ce_D} (hw : kw a S σ0 g0 σ g) (iv : kl_iv S) {Q : Option Value → ce_S → ce_D → Prop} {X : String → ce_S → ce_D → Prop} {v0 : Int64} (kk : ce_WP (ce_rl 1 0) mL_now 0 (6 * 0) 30 [some (.ref (a)), some (.long (nh (fun k => (ka (sK S) (sO S) k).toInt64) (10) v0)), none, none, none] [] σ g Q X) : ∀ (n9 i : Nat), 10 - i < n9 → i ≤ 10 → ce_WP (ce_rl 1 0) mL_now 0 (6 * 0) 6 [some (.ref (a)), some (.long (nh (fun k => (ka (sK S) (sO S) k).toInt64) i v0)), none, some (.int (nI (i))), none] [] σ g Q X := by
  have b9 := iv.ok.1.b
  intro n9
  induction n9 with
  | zero =>
    intros
    omega
  | succ n9 ih =>
    intro i hm hi
    refine ce_iload_n dL_now_6 rfl ?_
    refine ce_bipush (v := nI (10)) dL_now_7 (by decide) ?_
    refine ce_icmp_geN (tgt := 30) dL_now_9 (by decide) rfl rfl (by omega) (by omega) (fun c_9 => ?_) (fun c_9 => ?_)
    · have e9 : i = 10 := by omega
      subst e9
      refine ce_drop (L' := [some (.ref (a)), some (.long (nh (fun k => (ka (sK S) (sO S) k).toInt64) (10) (v0))), none, none, none]) (ce_le_s rfl (ce_le_s rfl (ce_le_n (ce_le_n (ce_le_n ce_le_e))))) ?_
      exact kk
    · refine ce_ldc2 (v := lN 31) dL_now_12 kRL_110 ?_
      refine ce_lload_n dL_now_15 rfl ?_
      refine ce_lmul (z := (lN (31)) * (nh (fun k => (ka (sK S) (sO S) k).toInt64) i (v0))) dL_now_16 rfl ?_
      refine ce_aload_n dL_now_17 rfl ?_
      refine ce_iload_n dL_now_18 rfl ?_
      refine kc_Wj dL_now_19 hL_about kRL_112 (qn_about hw iv (k := i) (by omega)) rfl rfl (by decide) (Nat.le_of_ble_eq_true rfl) rfl (by decide) ?_
      refine ce_ladd (z := ((lN (31)) * (nh (fun k => (ka (sK S) (sO S) k).toInt64) i (v0))) + ((ka (sK S) (sO S) (i)).toInt64)) dL_now_22 rfl ?_
      refine ce_lstore_n dL_now_23 (Nat.le_of_ble_eq_true rfl) rfl ?_
      refine ce_iinc (v := nI (i + 1)) dL_now_24 rfl (ce_inc1 _) (Nat.le_of_ble_eq_true rfl) rfl ?_
      refine ce_goto (tgt := 6) dL_now_27 (by decide) ?_
      exact ih (i + 1) (by omega) (by omega)
set_option maxHeartbeats 2000000 in
set_option maxRecDepth 20000 in
theorem now_2 {a : Nat} {S : ks_S} {σ0 σ : ce_S} {g0 g : ce_D} (hw : kw a S σ0 g0 σ g) (iv : kl_iv S) {m : Nat} (hm0 : m < sK S 0 0) {Q : Option Value → ce_S → ce_D → Prop} {X : String → ce_S → ce_D → Prop} {v0 : Int64} (kk : ce_WP (ce_rl 1 0) mL_now 0 (6 * 0) 72 [some (.ref (a)), some (.long (nh (fun k => (km (sK S) (sO S) m k).toInt64) (4) v0)), none, some (.int (nI (m))), none] [] σ g Q X) : ∀ (n9 i : Nat), 4 - i < n9 → i ≤ 4 → ce_WP (ce_rl 1 0) mL_now 0 (6 * 0) 46 [some (.ref (a)), some (.long (nh (fun k => (km (sK S) (sO S) m k).toInt64) i v0)), none, some (.int (nI (m))), some (.int (nI (i)))] [] σ g Q X := by
  have b9 := iv.ok.1.b
  intro n9
  induction n9 with
  | zero =>
    intros
    omega
  | succ n9 ih =>
    intro i hm hi
    refine ce_iload dL_now_46 rfl ?_
    refine ce_iconst (v := nI (4)) dL_now_48 (by decide) ?_
    refine ce_icmp_geN (tgt := 72) dL_now_49 (by decide) rfl rfl (by omega) (by omega) (fun c_49 => ?_) (fun c_49 => ?_)
    · have e9 : i = 4 := by omega
      subst e9
      refine ce_drop (L' := [some (.ref (a)), some (.long (nh (fun k => (km (sK S) (sO S) m k).toInt64) (4) (v0))), none, some (.int (nI (m))), none]) (ce_le_s rfl (ce_le_s rfl (ce_le_n (ce_le_s rfl (ce_le_n ce_le_e))))) ?_
      exact kk
    · refine ce_ldc2 (v := lN 31) dL_now_52 kRL_110 ?_
      refine ce_lload_n dL_now_55 rfl ?_
      refine ce_lmul (z := (lN (31)) * (nh (fun k => (km (sK S) (sO S) m k).toInt64) i (v0))) dL_now_56 rfl ?_
      refine ce_aload_n dL_now_57 rfl ?_
      refine ce_iload_n dL_now_58 rfl ?_
      refine ce_iload dL_now_59 rfl ?_
      refine kc_Wj dL_now_61 hL_member kRL_117 (qn_member hw iv (m := m) (k := i) (by omega) (by omega)) rfl rfl (by decide) (Nat.le_of_ble_eq_true rfl) rfl (by decide) ?_
      refine ce_ladd (z := ((lN (31)) * (nh (fun k => (km (sK S) (sO S) m k).toInt64) i (v0))) + ((km (sK S) (sO S) (m) (i)).toInt64)) dL_now_64 rfl ?_
      refine ce_lstore_n dL_now_65 (Nat.le_of_ble_eq_true rfl) rfl ?_
      refine ce_iinc (v := nI (i + 1)) dL_now_66 rfl (ce_inc1 _) (Nat.le_of_ble_eq_true rfl) rfl ?_
      refine ce_goto (tgt := 46) dL_now_69 (by decide) ?_
      exact ih (i + 1) (by omega) (by omega)
set_option maxHeartbeats 2000000 in
set_option maxRecDepth 20000 in
theorem now_3 {a : Nat} {S : ks_S} {σ0 σ : ce_S} {g0 g : ce_D} (hw : kw a S σ0 g0 σ g) (iv : kl_iv S) {m : Nat} (hm0 : m < sK S 0 0) {Q : Option Value → ce_S → ce_D → Prop} {X : String → ce_S → ce_D → Prop} {v0 : Int64} (kk : ce_WP (ce_rl 1 0) mL_now 0 (6 * 0) 117 [some (.ref (a)), some (.long (nh (fun k => (khn (sK S) m (k / 3) (k % 3)).toInt64) (3 * sK S 0 1) v0)), none, some (.int (nI (m))), none] [] σ g Q X) : ∀ (n9 i : Nat), 3 * sK S 0 1 - i < n9 → i ≤ 3 * sK S 0 1 → ce_WP (ce_rl 1 0) mL_now 0 (6 * 0) 75 [some (.ref (a)), some (.long (nh (fun k => (khn (sK S) m (k / 3) (k % 3)).toInt64) i v0)), none, some (.int (nI (m))), some (.int (nI (i)))] [] σ g Q X := by
  have b9 := iv.ok.1.b
  intro n9
  induction n9 with
  | zero =>
    intros
    omega
  | succ n9 ih =>
    intro i hm hi
    refine ce_iload dL_now_75 rfl ?_
    refine ce_i2l (v := lN (i)) dL_now_77 (nI_l (by omega)) ?_
    refine ce_ldc2 (v := lN 3) dL_now_78 kRL_120 ?_
    refine ce_aload_n dL_now_81 rfl ?_
    refine ce_iconst (v := nI (1)) dL_now_82 (by decide) ?_
    refine kc_Wj dL_now_83 hL_about kRL_112 (q_about1 hw iv) rfl rfl (by decide) (Nat.le_of_ble_eq_true rfl) rfl (by decide) ?_
    refine ce_lmul (z := lN ((3) * (sK S 0 1))) dL_now_86 (lN_mul _ _) ?_
    refine ce_lcmp (z := lg_cmp (lN (i)) (lN ((3) * (sK S 0 1)))) dL_now_87 rfl ?_
    refine ce_if_geL (a := i) (b := (3) * (sK S 0 1)) (tgt := 117) dL_now_88 (by decide) rfl (by omega) (by omega) (fun c_88 => ?_) (fun c_88 => ?_)
    · have e9 : i = 3 * sK S 0 1 := by omega
      subst e9
      refine ce_drop (L' := [some (.ref (a)), some (.long (nh (fun k => (khn (sK S) m (k / 3) (k % 3)).toInt64) (3 * sK S 0 1) (v0))), none, some (.int (nI (m))), none]) (ce_le_s rfl (ce_le_s rfl (ce_le_n (ce_le_s rfl (ce_le_n ce_le_e))))) ?_
      exact kk
    · refine ce_ldc2 (v := lN 31) dL_now_91 kRL_110 ?_
      refine ce_lload_n dL_now_94 rfl ?_
      refine ce_lmul (z := (lN (31)) * (nh (fun k => (khn (sK S) m (k / 3) (k % 3)).toInt64) i (v0))) dL_now_95 rfl ?_
      refine ce_aload_n dL_now_96 rfl ?_
      refine ce_iload_n dL_now_97 rfl ?_
      refine ce_iload dL_now_98 rfl ?_
      refine ce_iconst (v := nI (3)) dL_now_100 (by decide) ?_
      refine ce_idiv (z := nI ((i) / (3))) dL_now_101 (nI_ne0 (by omega) (by omega)) (pk_div (by omega) (by omega) (by omega)) ?_
      refine ce_iload dL_now_102 rfl ?_
      refine ce_iconst (v := nI (3)) dL_now_104 (by decide) ?_
      refine ce_irem (z := nI ((i) % (3))) dL_now_105 (nI_ne0 (by omega) (by omega)) (pk_rem (by omega) (by omega) (by omega)) ?_
      refine kc_Wj dL_now_106 hL_has kRL_122 (qn_has hw iv (m := m) (w := (i) / (3)) (k := (i) % (3)) (by omega) (by omega) (by omega)) rfl rfl (by decide) (Nat.le_of_ble_eq_true rfl) rfl (by decide) ?_
      refine ce_ladd (z := ((lN (31)) * (nh (fun k => (khn (sK S) m (k / 3) (k % 3)).toInt64) i (v0))) + ((khn (sK S) (m) ((i) / (3)) ((i) % (3))).toInt64)) dL_now_109 rfl ?_
      refine ce_lstore_n dL_now_110 (Nat.le_of_ble_eq_true rfl) rfl ?_
      refine ce_iinc (v := nI (i + 1)) dL_now_111 rfl (ce_inc1 _) (Nat.le_of_ble_eq_true rfl) rfl ?_
      refine ce_goto (tgt := 75) dL_now_114 (by decide) ?_
      exact ih (i + 1) (by omega) (by omega)
set_option maxHeartbeats 2000000 in
set_option maxRecDepth 20000 in
theorem now_5 {a : Nat} {S : ks_S} {σ0 σ : ce_S} {g0 g : ce_D} (hw : kw a S σ0 g0 σ g) (iv : kl_iv S) {Q : Option Value → ce_S → ce_D → Prop} {X : String → ce_S → ce_D → Prop} {v0 : Int64} (kk : ce_WP (ce_rl 1 0) mL_now 0 (6 * 0) 165 [some (.ref (a)), some (.long (nh (fun k => (kwn (sK S) (k / 9) (k % 9)).toInt64) (9 * sK S 0 1) v0)), none, none, none] [] σ g Q X) : ∀ (n9 i : Nat), 9 * sK S 0 1 - i < n9 → i ≤ 9 * sK S 0 1 → ce_WP (ce_rl 1 0) mL_now 0 (6 * 0) 125 [some (.ref (a)), some (.long (nh (fun k => (kwn (sK S) (k / 9) (k % 9)).toInt64) i v0)), none, some (.int (nI (i))), none] [] σ g Q X := by
  have b9 := iv.ok.1.b
  intro n9
  induction n9 with
  | zero =>
    intros
    omega
  | succ n9 ih =>
    intro i hm hi
    refine ce_iload_n dL_now_125 rfl ?_
    refine ce_i2l (v := lN (i)) dL_now_126 (nI_l (by omega)) ?_
    refine ce_ldc2 (v := lN 9) dL_now_127 kRL_125 ?_
    refine ce_aload_n dL_now_130 rfl ?_
    refine ce_iconst (v := nI (1)) dL_now_131 (by decide) ?_
    refine kc_Wj dL_now_132 hL_about kRL_112 (q_about1 hw iv) rfl rfl (by decide) (Nat.le_of_ble_eq_true rfl) rfl (by decide) ?_
    refine ce_lmul (z := lN ((9) * (sK S 0 1))) dL_now_135 (lN_mul _ _) ?_
    refine ce_lcmp (z := lg_cmp (lN (i)) (lN ((9) * (sK S 0 1)))) dL_now_136 rfl ?_
    refine ce_if_geL (a := i) (b := (9) * (sK S 0 1)) (tgt := 165) dL_now_137 (by decide) rfl (by omega) (by omega) (fun c_137 => ?_) (fun c_137 => ?_)
    · have e9 : i = 9 * sK S 0 1 := by omega
      subst e9
      refine ce_drop (L' := [some (.ref (a)), some (.long (nh (fun k => (kwn (sK S) (k / 9) (k % 9)).toInt64) (9 * sK S 0 1) (v0))), none, none, none]) (ce_le_s rfl (ce_le_s rfl (ce_le_n (ce_le_n (ce_le_n ce_le_e))))) ?_
      exact kk
    · refine ce_ldc2 (v := lN 31) dL_now_140 kRL_110 ?_
      refine ce_lload_n dL_now_143 rfl ?_
      refine ce_lmul (z := (lN (31)) * (nh (fun k => (kwn (sK S) (k / 9) (k % 9)).toInt64) i (v0))) dL_now_144 rfl ?_
      refine ce_aload_n dL_now_145 rfl ?_
      refine ce_iload_n dL_now_146 rfl ?_
      refine ce_bipush (v := nI (9)) dL_now_147 (by decide) ?_
      refine ce_idiv (z := nI ((i) / (9))) dL_now_149 (nI_ne0 (by omega) (by omega)) (pk_div (by omega) (by omega) (by omega)) ?_
      refine ce_iload_n dL_now_150 rfl ?_
      refine ce_bipush (v := nI (9)) dL_now_151 (by decide) ?_
      refine ce_irem (z := nI ((i) % (9))) dL_now_153 (nI_ne0 (by omega) (by omega)) (pk_rem (by omega) (by omega) (by omega)) ?_
      refine kc_Wj dL_now_154 hL_wine kRL_127 (qn_wine hw iv (w := (i) / (9)) (k := (i) % (9)) (by omega) (by omega)) rfl rfl (by decide) (Nat.le_of_ble_eq_true rfl) rfl (by decide) ?_
      refine ce_ladd (z := ((lN (31)) * (nh (fun k => (kwn (sK S) (k / 9) (k % 9)).toInt64) i (v0))) + ((kwn (sK S) ((i) / (9)) ((i) % (9))).toInt64)) dL_now_157 rfl ?_
      refine ce_lstore_n dL_now_158 (Nat.le_of_ble_eq_true rfl) rfl ?_
      refine ce_iinc (v := nI (i + 1)) dL_now_159 rfl (ce_inc1 _) (Nat.le_of_ble_eq_true rfl) rfl ?_
      refine ce_goto (tgt := 125) dL_now_162 (by decide) ?_
      exact ih (i + 1) (by omega) (by omega)
set_option maxHeartbeats 2000000 in
set_option maxRecDepth 20000 in
theorem now_6 {a : Nat} {S : ks_S} {σ0 σ : ce_S} {g0 g : ce_D} (hw : kw a S σ0 g0 σ g) (iv : kl_iv S) {Q : Option Value → ce_S → ce_D → Prop} {X : String → ce_S → ce_D → Prop} {v0 : Int64} (kk : ce_WP (ce_rl 1 0) mL_now 0 (6 * 0) 205 [some (.ref (a)), some (.long (nh (fun k => (kbn (sK S) (k / 3) (k % 3)).toInt64) (3 * sK S 0 2) v0)), none, none, none] [] σ g Q X) : ∀ (n9 i : Nat), 3 * sK S 0 2 - i < n9 → i ≤ 3 * sK S 0 2 → ce_WP (ce_rl 1 0) mL_now 0 (6 * 0) 167 [some (.ref (a)), some (.long (nh (fun k => (kbn (sK S) (k / 3) (k % 3)).toInt64) i v0)), none, some (.int (nI (i))), none] [] σ g Q X := by
  have b9 := iv.ok.1.b
  intro n9
  induction n9 with
  | zero =>
    intros
    omega
  | succ n9 ih =>
    intro i hm hi
    refine ce_iload_n dL_now_167 rfl ?_
    refine ce_i2l (v := lN (i)) dL_now_168 (nI_l (by omega)) ?_
    refine ce_ldc2 (v := lN 3) dL_now_169 kRL_120 ?_
    refine ce_aload_n dL_now_172 rfl ?_
    refine ce_iconst (v := nI (2)) dL_now_173 (by decide) ?_
    refine kc_Wj dL_now_174 hL_about kRL_112 (q_about2 hw iv) rfl rfl (by decide) (Nat.le_of_ble_eq_true rfl) rfl (by decide) ?_
    refine ce_lmul (z := lN ((3) * (sK S 0 2))) dL_now_177 (lN_mul _ _) ?_
    refine ce_lcmp (z := lg_cmp (lN (i)) (lN ((3) * (sK S 0 2)))) dL_now_178 rfl ?_
    refine ce_if_geL (a := i) (b := (3) * (sK S 0 2)) (tgt := 205) dL_now_179 (by decide) rfl (by omega) (by omega) (fun c_179 => ?_) (fun c_179 => ?_)
    · have e9 : i = 3 * sK S 0 2 := by omega
      subst e9
      refine ce_drop (L' := [some (.ref (a)), some (.long (nh (fun k => (kbn (sK S) (k / 3) (k % 3)).toInt64) (3 * sK S 0 2) (v0))), none, none, none]) (ce_le_s rfl (ce_le_s rfl (ce_le_n (ce_le_n (ce_le_n ce_le_e))))) ?_
      exact kk
    · refine ce_ldc2 (v := lN 31) dL_now_182 kRL_110 ?_
      refine ce_lload_n dL_now_185 rfl ?_
      refine ce_lmul (z := (lN (31)) * (nh (fun k => (kbn (sK S) (k / 3) (k % 3)).toInt64) i (v0))) dL_now_186 rfl ?_
      refine ce_aload_n dL_now_187 rfl ?_
      refine ce_iload_n dL_now_188 rfl ?_
      refine ce_iconst (v := nI (3)) dL_now_189 (by decide) ?_
      refine ce_idiv (z := nI ((i) / (3))) dL_now_190 (nI_ne0 (by omega) (by omega)) (pk_div (by omega) (by omega) (by omega)) ?_
      refine ce_iload_n dL_now_191 rfl ?_
      refine ce_iconst (v := nI (3)) dL_now_192 (by decide) ?_
      refine ce_irem (z := nI ((i) % (3))) dL_now_193 (nI_ne0 (by omega) (by omega)) (pk_rem (by omega) (by omega) (by omega)) ?_
      refine kc_Wj dL_now_194 hL_bin kRL_129 (qn_bin hw iv (i := (i) / (3)) (k := (i) % (3)) (by omega) (by omega)) rfl rfl (by decide) (Nat.le_of_ble_eq_true rfl) rfl (by decide) ?_
      refine ce_ladd (z := ((lN (31)) * (nh (fun k => (kbn (sK S) (k / 3) (k % 3)).toInt64) i (v0))) + ((kbn (sK S) ((i) / (3)) ((i) % (3))).toInt64)) dL_now_197 rfl ?_
      refine ce_lstore_n dL_now_198 (Nat.le_of_ble_eq_true rfl) rfl ?_
      refine ce_iinc (v := nI (i + 1)) dL_now_199 rfl (ce_inc1 _) (Nat.le_of_ble_eq_true rfl) rfl ?_
      refine ce_goto (tgt := 167) dL_now_202 (by decide) ?_
      exact ih (i + 1) (by omega) (by omega)
set_option maxHeartbeats 2000000 in
set_option maxRecDepth 20000 in
theorem now_4 {a : Nat} {S : ks_S} {σ0 σ : ce_S} {g0 g : ce_D} (hw : kw a S σ0 g0 σ g) (iv : kl_iv S) {Q : Option Value → ce_S → ce_D → Prop} {X : String → ce_S → ce_D → Prop} {v0 : Int64} (kk : ce_WP (ce_rl 1 0) mL_now 0 (6 * 0) 123 [some (.ref (a)), some (.long (nm (sK S) (sO S) (sK S 0 0) v0)), none, none, none] [] σ g Q X) : ∀ (n9 m : Nat), sK S 0 0 - m < n9 → m ≤ sK S 0 0 → ce_WP (ce_rl 1 0) mL_now 0 (6 * 0) 32 [some (.ref (a)), some (.long (nm (sK S) (sO S) m v0)), none, some (.int (nI (m))), none] [] σ g Q X := by
  have b9 := iv.ok.1.b
  intro n9
  induction n9 with
  | zero =>
    intros
    omega
  | succ n9 ih =>
    intro m hm hi
    refine ce_iload_n dL_now_32 rfl ?_
    refine ce_i2l (v := lN (m)) dL_now_33 (nI_l (by omega)) ?_
    refine ce_aload_n dL_now_34 rfl ?_
    refine ce_iconst (v := nI (0)) dL_now_35 (by decide) ?_
    refine kc_Wj dL_now_36 hL_about kRL_112 (q_about0 hw iv) rfl rfl (by decide) (Nat.le_of_ble_eq_true rfl) rfl (by decide) ?_
    refine ce_lcmp (z := lg_cmp (lN (m)) (lN (sK S 0 0))) dL_now_39 rfl ?_
    refine ce_if_geL (a := m) (b := sK S 0 0) (tgt := 123) dL_now_40 (by decide) rfl (by omega) (by omega) (fun c_40 => ?_) (fun c_40 => ?_)
    · have e9 : m = sK S 0 0 := by omega
      subst e9
      refine ce_drop (L' := [some (.ref (a)), some (.long (nm (sK S) (sO S) (sK S 0 0) v0)), none, none, none]) (ce_le_s rfl (ce_le_s rfl (ce_le_n (ce_le_n (ce_le_n ce_le_e))))) ?_
      exact kk
    · refine ce_iconst (v := nI (0)) dL_now_43 (by decide) ?_
      refine ce_istore dL_now_44 (Nat.le_of_ble_eq_true rfl) rfl ?_
      refine now_2 hw iv c_40 ?_ 5 0 (by omega) (by omega)
      refine ce_iconst (v := nI (0)) dL_now_72 (by decide) ?_
      refine ce_istore dL_now_73 (Nat.le_of_ble_eq_true rfl) rfl ?_
      refine now_3 hw iv c_40 ?_ (3 * sK S 0 1 + 1) 0 (by omega) (by omega)
      refine ce_iinc (v := nI (m + 1)) dL_now_117 rfl (ce_inc1 _) (Nat.le_of_ble_eq_true rfl) rfl ?_
      refine ce_goto (tgt := 32) dL_now_120 (by decide) ?_
      exact ih (m + 1) (by omega) (by omega)
set_option maxHeartbeats 2000000 in
set_option maxRecDepth 20000 in
theorem m_L_now {a : Nat} {S : ks_S} {σ0 σ : ce_S} {g0 g : ce_D} (hw : kw a S σ0 g0 σ g) (iv : kl_iv S) : ce_CT (ce_rl 1 0) mL_now [.ref a] σ g (ce_jv (nw (sK S) (sO S)) σ g) ce_no := by
  have b9 := iv.ok.1.b
  refine ce_enter (by decide) rfl (Nat.le_of_ble_eq_true rfl) (L := [some (.ref (a)), none, none, none, none]) rfl ?_
  show ce_WP (ce_rl 1 0) mL_now 0 (6 * 0) 0 _ _ _ _ _ _
  refine ce_ldc2 (v := lN 53) dL_now_0 kRL_108 ?_
  refine ce_lstore_n dL_now_3 (Nat.le_of_ble_eq_true rfl) rfl ?_
  refine ce_iconst (v := nI (0)) dL_now_4 (by decide) ?_
  refine ce_istore_n dL_now_5 (Nat.le_of_ble_eq_true rfl) rfl ?_
  refine now_1 hw iv (v0 := lN 53) ?_ 11 0 (by omega) (by omega)
  refine ce_iconst (v := nI (0)) dL_now_30 (by decide) ?_
  refine ce_istore_n dL_now_31 (Nat.le_of_ble_eq_true rfl) rfl ?_
  refine now_4 hw iv (v0 := nh (fun k => (ka (sK S) (sO S) k).toInt64) 10 (lN 53)) ?_ (sK S 0 0 + 1) 0 (by omega) (by omega)
  refine ce_iconst (v := nI (0)) dL_now_123 (by decide) ?_
  refine ce_istore_n dL_now_124 (Nat.le_of_ble_eq_true rfl) rfl ?_
  refine now_5 hw iv (v0 := nm (sK S) (sO S) (sK S 0 0) (nh (fun k => (ka (sK S) (sO S) k).toInt64) 10 (lN 53))) ?_ (9 * sK S 0 1 + 1) 0 (by omega) (by omega)
  refine ce_iconst (v := nI (0)) dL_now_165 (by decide) ?_
  refine ce_istore_n dL_now_166 (Nat.le_of_ble_eq_true rfl) rfl ?_
  refine now_6 hw iv (v0 := nh (fun k => (kwn (sK S) (k / 9) (k % 9)).toInt64) (9 * sK S 0 1) (nm (sK S) (sO S) (sK S 0 0) (nh (fun k => (ka (sK S) (sO S) k).toInt64) 10 (lN 53)))) ?_ (3 * sK S 0 2 + 1) 0 (by omega) (by omega)
  refine ce_lload_n dL_now_205 rfl ?_
  exact ce_lret dL_now_206 rfl (by decide) (by decide) ⟨rfl, rfl, rfl⟩
