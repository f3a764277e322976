theorem cr_tl (x : Int32) : x.toInt64.toInt = x.toInt := Int32.toInt_toInt64 x
theorem cr_ifc {α : Type} {P R : Prop} [Decidable P] [Decidable R] {x y : α} (e : P ↔ R) : (if P then x else y) = if R then x else y := by
  by_cases h : P
  · rw [if_pos h, if_pos (e.mp h)]
  · rw [if_neg h, if_neg (fun k => h (e.mpr k))]
theorem cr_io {v lo hi : Int64} {a b c : Int} (h1 : v.toInt = a) (h2 : lo.toInt = b) (h3 : hi.toInt = c) : (b ≤ a ∧ a ≤ c) ↔ lo.toInt ≤ v.toInt ∧ v.toInt ≤ hi.toInt := by rw [h1, h2, h3]
theorem cr_s1 {n : Nat} (h : n ≤ 1000) : (nI n - nI 1).toInt = (n : Int) - 1 := by
  by_cases e : n = 0
  · subst e; decide
  · rw [pk_sub (by omega), nI_toInt (by omega)]
    omega
def ce_LM (σ : ce_S) (d : Nat) : Prop := ce_kd σ d = 8 + 1 ∧ (ce_gr σ d 1 = some (d + 1) ∧ ce_gr σ d 5 = some (d + 2) ∧ ce_gr σ d 6 = some (d + 3) ∧ ce_gr σ d 7 = some (d + 4) ∧ ce_gr σ d 8 = some (d + 5) ∧ ce_gr σ d 10 = some (d + 6) ∧ ce_gr σ d 11 = some (d + 7) ∧ ce_gr σ d 12 = some (d + 8) ∧ ce_gr σ d 13 = some (d + 9) ∧ ce_gr σ d 14 = some (d + 10)) ∧ ce_LA σ 10 (d + 1) 120 ∧ ce_LA σ 10 (d + 2) 189 ∧ ce_LA σ 10 (d + 3) 189 ∧ ce_LA σ 10 (d + 4) 189 ∧ ce_LA σ 10 (d + 5) 2646 ∧ ce_LA σ 10 (d + 6) 378 ∧ ce_LA σ 12 (d + 7) 2 ∧ ce_LA σ 10 (d + 8) 6 ∧ ce_LA σ 10 (d + 9) 256 ∧ ce_LA σ 10 (d + 10) 256
theorem ci_LM {σ : ce_S} {g : ce_D} {d : Nat} (h : ci_pt σ g d ci_X8_init 11) : ce_LM σ d := by
  refine ⟨(h 0 (by decide)).1, ⟨ci_gr (j := 1) h 0 (by decide) rfl, ci_gr (j := 2) h 0 (by decide) rfl, ci_gr (j := 3) h 0 (by decide) rfl, ci_gr (j := 4) h 0 (by decide) rfl, ci_gr (j := 5) h 0 (by decide) rfl, ci_gr (j := 6) h 0 (by decide) rfl, ci_gr (j := 7) h 0 (by decide) rfl, ci_gr (j := 8) h 0 (by decide) rfl, ci_gr (j := 9) h 0 (by decide) rfl, ci_gr (j := 10) h 0 (by decide) rfl⟩, ci_LA h 1 (by decide) ⟨rfl, rfl⟩, ci_LA h 2 (by decide) ⟨rfl, rfl⟩, ci_LA h 3 (by decide) ⟨rfl, rfl⟩, ci_LA h 4 (by decide) ⟨rfl, rfl⟩, ci_LA h 5 (by decide) ⟨rfl, rfl⟩, ci_LA h 6 (by decide) ⟨rfl, rfl⟩, ci_LA h 7 (by decide) ⟨rfl, rfl⟩, ci_LA h 8 (by decide) ⟨rfl, rfl⟩, ci_LA h 9 (by decide) ⟨rfl, rfl⟩, ci_LA h 10 (by decide) ⟨rfl, rfl⟩⟩
/-- n numbers of the array s, from p on, come to the array t, from q on -/
def ce_mv (g : ce_D) (s p t q n : Nat) : ce_D := fun b => if b = t then (fun i => if q ≤ i ∧ i < q + n then g s (p + (i - q)) else g t i) else g b
theorem ce_mv_ne {g : ce_D} {s p t q n b : Nat} (h : b ≠ t) : ce_mv g s p t q n b = g b := if_neg h
theorem ce_mv_in {g : ce_D} {s p t q n i : Nat} (h : q ≤ i ∧ i < q + n) : ce_mv g s p t q n t i = g s (p + (i - q)) := by
  unfold ce_mv
  rw [if_pos rfl, if_pos h]
theorem ce_mv_out {g : ce_D} {s p t q n i : Nat} (h : ¬ (q ≤ i ∧ i < q + n)) : ce_mv g s p t q n t i = g t i := by
  unfold ce_mv
  rw [if_pos rfl, if_neg h]
set_option maxHeartbeats 2000000 in
set_option maxRecDepth 20000 in
theorem w_X8_copy {σ : ce_S} {g0 : ce_D} (s p t q n ls lt : Nat) (hS : ce_LA σ 10 s ls) (hT : ce_LA σ 10 t lt) (h1 : p + n ≤ ls) (h2 : q + n ≤ lt) (h3 : ls ≤ 10000 ∧ lt ≤ 10000) (hst : s ≠ t ∨ q ≤ p) : ∀ (n9 i : Nat) (g : ce_D), n - i < n9 → i ≤ n → g = ce_mv g0 s p t q i → ce_WP (ce_r 0) mX8_copy 0 0 3 [some (.ref (s)), some (.int (nI (p))), some (.ref (t)), some (.int (nI (q))), some (.int (nI (n))), some (.int (nI (i)))] [] σ g (ce_uv σ (fun g1 => g1 = ce_mv g0 s p t q n)) ce_no := by
  intro n9
  induction n9 with
  | zero =>
    intros
    omega
  | succ n9 ih =>
    intro i g hm hi hG
    refine ce_iload dX8_copy_3 rfl ?_
    refine ce_iload dX8_copy_5 rfl ?_
    refine ce_icmp_geN (tgt := 28) dX8_copy_7 (by decide) rfl rfl (by omega) (by omega) (fun c_7 => ?_) (fun c_7 => ?_)
    · exact ce_vret dX8_copy_28 rfl (by decide) (by decide) ⟨rfl, rfl, by rw [hG, show i = n by omega]⟩
    · refine ce_aload_n dX8_copy_10 rfl ?_
      refine ce_iload_n dX8_copy_11 rfl ?_
      refine ce_iload dX8_copy_12 rfl ?_
      refine ce_iadd (z := nI (q + i)) dX8_copy_14 (nI_add _ _) ?_
      refine ce_aload_n dX8_copy_15 rfl ?_
      refine ce_iload_n dX8_copy_16 rfl ?_
      refine ce_iload dX8_copy_17 rfl ?_
      refine ce_iadd (z := nI (p + i)) dX8_copy_19 (nI_add _ _) ?_
      refine ce_iald dX8_copy_20 (hS).1 rfl (hS).2 (by omega) (by omega) ?_
      refine ce_iast dX8_copy_21 (hT).1 rfl (hT).2 (by omega) (by omega) ?_
      generalize hcg1 : ce_up g (t) (q + i) (g (s) (p + i)) = cg1
      refine ce_iinc (v := nI (i + 1)) dX8_copy_22 rfl (ce_inc1 _) (Nat.le_of_ble_eq_true rfl) rfl ?_
      refine ce_goto (tgt := 3) dX8_copy_25 (by decide) ?_
      refine ih (i + 1) cg1 (by omega) (by omega) ?_
      rw [← hcg1, hG]
      funext x j
      by_cases e : x = t
      · subst e
        rw [ce_up_eq]
        unfold upd
        by_cases e2 : j = q + i
        · rw [if_pos e2, e2, ce_mv_in (by omega)]
          rcases hst with hst | hst
          · rw [ce_mv_ne hst]; exact congrArg (g0 s) (by omega)
          · by_cases e3 : s = x
            · subst e3; rw [ce_mv_out (by omega)]; exact congrArg (g0 s) (by omega)
            · rw [ce_mv_ne e3]; exact congrArg (g0 s) (by omega)
        · rw [if_neg e2]
          by_cases e3 : q ≤ j ∧ j < q + i
          · rw [ce_mv_in e3, ce_mv_in (by omega)]
          · rw [ce_mv_out e3, ce_mv_out (by omega)]
      · rw [ce_up_ne _ _ _ e, ce_mv_ne e, ce_mv_ne e]
set_option maxHeartbeats 2000000 in
set_option maxRecDepth 20000 in
theorem m_X8_copy {σ : ce_S} {g0 : ce_D} (s p t q n ls lt : Nat) (hS : ce_LA σ 10 s ls) (hT : ce_LA σ 10 t lt) (h1 : p + n ≤ ls) (h2 : q + n ≤ lt) (h3 : ls ≤ 10000 ∧ lt ≤ 10000) (hst : s ≠ t ∨ q ≤ p) : ce_CT (ce_r 0) mX8_copy [.ref (s), .int (nI (p)), .ref (t), .int (nI (q)), .int (nI (n))] σ g0 (ce_uv σ (fun g1 => g1 = ce_mv g0 s p t q n)) ce_no := by
  refine ce_enter (by decide) rfl (Nat.le_of_ble_eq_true rfl) (L := [some (.ref (s)), some (.int (nI (p))), some (.ref (t)), some (.int (nI (q))), some (.int (nI (n))), none]) rfl ?_
  refine ce_iconst (v := nI (0)) dX8_copy_0 (by decide) ?_
  refine ce_istore dX8_copy_1 (Nat.le_of_ble_eq_true rfl) rfl ?_
  exact w_X8_copy s p t q n ls lt hS hT h1 h2 h3 hst (n + 1) 0 g0 (by omega) (by omega) (by funext x j; exact if h : x = t then (by rw [h, ce_mv_out (by omega)]) else (by rw [ce_mv_ne h]))
def ce_jv (r : Int64) (σ : ce_S) (g : ce_D) : Option Value → ce_S → ce_D → Prop := fun v σ' g' => v = some (.long r) ∧ σ' = σ ∧ g' = g
theorem cr_ten {i : Nat} : lN (10 ^ i) * 10 = lN (10 ^ (i + 1)) := by
  rw [Nat.pow_succ]
  exact lN_mul (10 ^ i) 10
set_option maxHeartbeats 2000000 in
set_option maxRecDepth 20000 in
theorem w_X8_tenTo {σ : ce_S} {g : ce_D} (n : Nat) (hn : n ≤ 18) : ∀ (n9 i : Nat), n - i < n9 → i ≤ n → ce_WP (ce_r 0) mX8_tenTo 0 0 4 [some (.int (nI (n))), some (.long (lN (10 ^ i))), none, some (.int (nI (i)))] [] σ g (ce_jv (lN (10 ^ n)) σ g) ce_no := by
  intro n9
  induction n9 with
  | zero =>
    intros
    omega
  | succ n9 ih =>
    intro i hm hi
    refine ce_iload_n dX8_tenTo_4 rfl ?_
    refine ce_iload_n dX8_tenTo_5 rfl ?_
    refine ce_icmp_geN (tgt := 21) dX8_tenTo_6 (by decide) rfl rfl (by omega) (by omega) (fun c_6 => ?_) (fun c_6 => ?_)
    · refine ce_lload_n dX8_tenTo_21 rfl ?_
      refine ce_lret dX8_tenTo_22 rfl (by decide) (by decide) ?_
      exact ⟨congrArg (fun z => some (Value.long (lN (10 ^ z)))) (show i = n by omega), rfl, rfl⟩
    · refine ce_lload_n dX8_tenTo_9 rfl ?_
      refine ce_ldc2 dX8_tenTo_10 kRX8_45 ?_
      refine ce_lmul (z := lN (10 ^ (i + 1))) dX8_tenTo_13 cr_ten ?_
      refine ce_lstore_n dX8_tenTo_14 (Nat.le_of_ble_eq_true rfl) rfl ?_
      refine ce_iinc (v := nI (i + 1)) dX8_tenTo_15 rfl (ce_inc1 _) (Nat.le_of_ble_eq_true rfl) rfl ?_
      refine ce_goto (tgt := 4) dX8_tenTo_18 (by decide) ?_
      exact ih (i + 1) (by omega) (by omega)
set_option maxHeartbeats 2000000 in
set_option maxRecDepth 20000 in
theorem m_X8_tenTo {σ : ce_S} {g : ce_D} (n : Nat) (hn : n ≤ 18) : ce_CT (ce_r 0) mX8_tenTo [.int (nI (n))] σ g (ce_jv (lN (10 ^ n)) σ g) ce_no := by
  refine ce_enter (by decide) rfl (Nat.le_of_ble_eq_true rfl) (L := [some (.int (nI (n))), none, none, none]) rfl ?_
  refine ce_lconst (v := 1) dX8_tenTo_0 (by decide) ?_
  refine ce_lstore_n dX8_tenTo_1 (Nat.le_of_ble_eq_true rfl) rfl ?_
  refine ce_iconst (v := nI (0)) dX8_tenTo_2 (by decide) ?_
  refine ce_istore_n dX8_tenTo_3 (Nat.le_of_ble_eq_true rfl) rfl ?_
  exact w_X8_tenTo n hn (n + 1) 0 (by omega) (by omega)
set_option maxHeartbeats 2000000 in
set_option maxRecDepth 20000 in
theorem m_X8_refused0 {σ : ce_S} {g : ce_D} (d : Nat) (hD : ce_LM σ d) : ce_CT (ce_r 0) mX8_refused [.ref (d), .int (nI (0))] σ g (ce_rv σ (fun z9 g1 => z9 = nI 0 ∧ g1 = ce_up g d 0 (nI 0))) ce_no := by
  refine ce_enter (by decide) rfl (Nat.le_of_ble_eq_true rfl) (L := [some (.ref (d)), some (.int (nI (0)))]) rfl ?_
  refine ce_aload_n dX8_refused_0 rfl ?_
  refine ce_iload_n dX8_refused_1 rfl ?_
  refine ce_putI dX8_refused_2 pRX8_41 hD.1 rfl rfl ?_
  generalize hcg1 : ce_up g (d) 0 (nI (0)) = cg1
  refine ce_iload_n dX8_refused_5 rfl ?_
  refine ce_if_leN (tgt := 13) dX8_refused_6 (by decide) rfl (by omega) (fun c_6 => ?_) (fun c_6 => ?_)
  · refine ce_iconst (v := nI (0)) dX8_refused_13 (by decide) ?_
    refine ce_iret dX8_refused_14 rfl (by first | rfl | decide) (by decide) (by decide) ?_
    exact ⟨_, rfl, rfl, rfl, rfl⟩
  · omega
set_option maxHeartbeats 2000000 in
set_option maxRecDepth 20000 in
theorem m_X8_refused1 {σ : ce_S} {g : ce_D} (d : Nat) (hD : ce_LM σ d) : ce_CT (ce_r 0) mX8_refused [.ref (d), .int (nI (1))] σ g (ce_rv σ (fun z9 g1 => z9 = nI 1 ∧ g1 = ce_up g d 0 (nI 1))) ce_no := by
  refine ce_enter (by decide) rfl (Nat.le_of_ble_eq_true rfl) (L := [some (.ref (d)), some (.int (nI (1)))]) rfl ?_
  refine ce_aload_n dX8_refused_0 rfl ?_
  refine ce_iload_n dX8_refused_1 rfl ?_
  refine ce_putI dX8_refused_2 pRX8_41 hD.1 rfl rfl ?_
  generalize hcg1 : ce_up g (d) 0 (nI (1)) = cg1
  refine ce_iload_n dX8_refused_5 rfl ?_
  refine ce_if_leN (tgt := 13) dX8_refused_6 (by decide) rfl (by omega) (fun c_6 => ?_) (fun c_6 => ?_)
  · omega
  · refine ce_iconst (v := nI (1)) dX8_refused_9 (by decide) ?_
    refine ce_goto (tgt := 14) dX8_refused_10 (by decide) ?_
    refine ce_iret dX8_refused_14 rfl (by first | rfl | decide) (by decide) (by decide) ?_
    exact ⟨_, rfl, rfl, rfl, rfl⟩
set_option maxHeartbeats 2000000 in
set_option maxRecDepth 20000 in
theorem m_X8_refused2 {σ : ce_S} {g : ce_D} (d : Nat) (hD : ce_LM σ d) : ce_CT (ce_r 0) mX8_refused [.ref (d), .int (nI (2))] σ g (ce_rv σ (fun z9 g1 => z9 = nI 1 ∧ g1 = ce_up g d 0 (nI 2))) ce_no := by
  refine ce_enter (by decide) rfl (Nat.le_of_ble_eq_true rfl) (L := [some (.ref (d)), some (.int (nI (2)))]) rfl ?_
  refine ce_aload_n dX8_refused_0 rfl ?_
  refine ce_iload_n dX8_refused_1 rfl ?_
  refine ce_putI dX8_refused_2 pRX8_41 hD.1 rfl rfl ?_
  generalize hcg1 : ce_up g (d) 0 (nI (2)) = cg1
  refine ce_iload_n dX8_refused_5 rfl ?_
  refine ce_if_leN (tgt := 13) dX8_refused_6 (by decide) rfl (by omega) (fun c_6 => ?_) (fun c_6 => ?_)
  · omega
  · refine ce_iconst (v := nI (1)) dX8_refused_9 (by decide) ?_
    refine ce_goto (tgt := 14) dX8_refused_10 (by decide) ?_
    refine ce_iret dX8_refused_14 rfl (by first | rfl | decide) (by decide) (by decide) ?_
    exact ⟨_, rfl, rfl, rfl, rfl⟩
set_option maxHeartbeats 2000000 in
set_option maxRecDepth 20000 in
theorem m_X8_refused3 {σ : ce_S} {g : ce_D} (d : Nat) (hD : ce_LM σ d) : ce_CT (ce_r 0) mX8_refused [.ref (d), .int (nI (3))] σ g (ce_rv σ (fun z9 g1 => z9 = nI 1 ∧ g1 = ce_up g d 0 (nI 3))) ce_no := by
  refine ce_enter (by decide) rfl (Nat.le_of_ble_eq_true rfl) (L := [some (.ref (d)), some (.int (nI (3)))]) rfl ?_
  refine ce_aload_n dX8_refused_0 rfl ?_
  refine ce_iload_n dX8_refused_1 rfl ?_
  refine ce_putI dX8_refused_2 pRX8_41 hD.1 rfl rfl ?_
  generalize hcg1 : ce_up g (d) 0 (nI (3)) = cg1
  refine ce_iload_n dX8_refused_5 rfl ?_
  refine ce_if_leN (tgt := 13) dX8_refused_6 (by decide) rfl (by omega) (fun c_6 => ?_) (fun c_6 => ?_)
  · omega
  · refine ce_iconst (v := nI (1)) dX8_refused_9 (by decide) ?_
    refine ce_goto (tgt := 14) dX8_refused_10 (by decide) ?_
    refine ce_iret dX8_refused_14 rfl (by first | rfl | decide) (by decide) (by decide) ?_
    exact ⟨_, rfl, rfl, rfl, rfl⟩
theorem m_X8_refused {σ : ce_S} {g : ce_D} (d : Nat) (hD : ce_LM σ d) (f : Nat) (hf : f ≤ 3) : ce_CT (ce_r 0) mX8_refused [.ref d, .int (nI f)] σ g (ce_rv σ (fun z9 g1 => z9 = (if 0 < f then 1 else 0) ∧ g1 = ce_up g d 0 (nI f))) ce_no := by
  have h : f = 0 ∨ f = 1 ∨ f = 2 ∨ f = 3 := by omega
  rcases h with rfl | rfl | rfl | rfl
  · exact m_X8_refused0 d hD
  · exact m_X8_refused1 d hD
  · exact m_X8_refused2 d hD
  · exact m_X8_refused3 d hD
set_option maxHeartbeats 2000000 in
set_option maxRecDepth 20000 in
theorem m_X8_thrown {σ : ce_S} {g : ce_D} (d : Nat) (hD : ce_LM σ d) : ce_CT (ce_r 0) mX8_thrown [.ref (d)] σ g (ce_pv (g d 0) σ g) ce_no := by
  refine ce_enter (by decide) rfl (Nat.le_of_ble_eq_true rfl) (L := [some (.ref (d))]) rfl ?_
  refine ce_aload_n dX8_thrown_0 rfl ?_
  refine ce_getI dX8_thrown_1 fRX8_41 hD.1 ?_
  refine ce_iret dX8_thrown_4 rfl rfl (by decide) (by decide) ?_
  exact ⟨rfl, rfl, rfl⟩
set_option maxHeartbeats 2000000 in
set_option maxRecDepth 20000 in
theorem m_X8_isMember {σ : ce_S} {g : ce_D} (d : Nat) (F : ce_V) (O : Nat → Int32) (hD : ce_LM σ d) (hr : cr_row (g (d + 3)) F O) (x : Int32) (h8 : F 0 0 ≤ 8) : ce_CT (ce_r 1) mX8_isMember [.ref (d), .int (x)] σ g (ce_pv (if ce_in x (F 0 0) then 1 else 0) σ g) ce_no := by
  refine ce_enter (by decide) rfl (Nat.le_of_ble_eq_true rfl) (L := [some (.ref (d)), some (.int (x))]) rfl ?_
  refine ce_iload_n dX8_isMember_0 rfl ?_
  refine ce_i2l (v := (x).toInt64) dX8_isMember_1 rfl ?_
  refine ce_lconst (v := 0) dX8_isMember_2 (by decide) ?_
  refine ce_aload_n dX8_isMember_3 rfl ?_
  refine ce_getR dX8_isMember_4 fRX8_16 hD.1 hD.2.1.2.2.1 ?_
  refine ce_iconst (v := nI (0)) dX8_isMember_7 (by decide) ?_
  refine ce_ialdv dX8_isMember_8 (hD.2.2.2.2.1).1 rfl (hD.2.2.2.2.1).2 (by omega) (by decide) ((hr).c0) ?_
  refine ce_iconst (v := nI (1)) dX8_isMember_9 (by decide) ?_
  refine ce_isub (z := (nI (F 0 0)) - (nI (1))) dX8_isMember_10 rfl ?_
  refine ce_i2l (v := ((nI (F 0 0)) - (nI (1))).toInt64) dX8_isMember_11 rfl ?_
  refine ce_cSp dX8_isMember_12 hX8_in kRX8_108 (m_X8_in ((x).toInt64) (0) (((nI (F 0 0)) - (nI (1))).toInt64) ((0 : Int) ≤ (x).toInt ∧ (x).toInt ≤ ((F 0 0 : Int) - 1 : Int)) (cr_io ((cr_tl (x)).trans rfl) (by decide) ((cr_tl ((nI (F 0 0)) - (nI (1)))).trans (cr_s1 (by omega))))) rfl rfl (by decide) (Nat.le_of_ble_eq_true rfl) ?_
  refine ce_iret dX8_isMember_15 rfl (by split <;> rfl) (by decide) (by decide) ?_
  have e : ((0 : Int) ≤ (x).toInt ∧ (x).toInt ≤ ((F 0 0 : Int) - 1 : Int)) ↔ ce_in x (F 0 0) := by unfold ce_in; omega
  exact ⟨congrArg (fun z => some (Value.int z)) (cr_ifc e), rfl, rfl⟩
set_option maxHeartbeats 2000000 in
set_option maxRecDepth 20000 in
theorem m_X8_isWine {σ : ce_S} {g : ce_D} (d : Nat) (F : ce_V) (O : Nat → Int32) (hD : ce_LM σ d) (hr : cr_row (g (d + 3)) F O) (x : Int32) (h8 : F 0 1 ≤ 8) : ce_CT (ce_r 1) mX8_isWine [.ref (d), .int (x)] σ g (ce_pv (if ce_in x (F 0 1) then 1 else 0) σ g) ce_no := by
  refine ce_enter (by decide) rfl (Nat.le_of_ble_eq_true rfl) (L := [some (.ref (d)), some (.int (x))]) rfl ?_
  refine ce_iload_n dX8_isWine_0 rfl ?_
  refine ce_i2l (v := (x).toInt64) dX8_isWine_1 rfl ?_
  refine ce_lconst (v := 0) dX8_isWine_2 (by decide) ?_
  refine ce_aload_n dX8_isWine_3 rfl ?_
  refine ce_getR dX8_isWine_4 fRX8_16 hD.1 hD.2.1.2.2.1 ?_
  refine ce_iconst (v := nI (1)) dX8_isWine_7 (by decide) ?_
  refine ce_ialdv dX8_isWine_8 (hD.2.2.2.2.1).1 rfl (hD.2.2.2.2.1).2 (by omega) (by decide) ((hr).c1) ?_
  refine ce_iconst (v := nI (1)) dX8_isWine_9 (by decide) ?_
  refine ce_isub (z := (nI (F 0 1)) - (nI (1))) dX8_isWine_10 rfl ?_
  refine ce_i2l (v := ((nI (F 0 1)) - (nI (1))).toInt64) dX8_isWine_11 rfl ?_
  refine ce_cSp dX8_isWine_12 hX8_in kRX8_108 (m_X8_in ((x).toInt64) (0) (((nI (F 0 1)) - (nI (1))).toInt64) ((0 : Int) ≤ (x).toInt ∧ (x).toInt ≤ ((F 0 1 : Int) - 1 : Int)) (cr_io ((cr_tl (x)).trans rfl) (by decide) ((cr_tl ((nI (F 0 1)) - (nI (1)))).trans (cr_s1 (by omega))))) rfl rfl (by decide) (Nat.le_of_ble_eq_true rfl) ?_
  refine ce_iret dX8_isWine_15 rfl (by split <;> rfl) (by decide) (by decide) ?_
  have e : ((0 : Int) ≤ (x).toInt ∧ (x).toInt ≤ ((F 0 1 : Int) - 1 : Int)) ↔ ce_in x (F 0 1) := by unfold ce_in; omega
  exact ⟨congrArg (fun z => some (Value.int z)) (cr_ifc e), rfl, rfl⟩
set_option maxHeartbeats 2000000 in
set_option maxRecDepth 20000 in
theorem m_X8_isBin {σ : ce_S} {g : ce_D} (d : Nat) (F : ce_V) (O : Nat → Int32) (hD : ce_LM σ d) (hr : cr_row (g (d + 3)) F O) (x : Int32) (h8 : F 0 2 ≤ 8) : ce_CT (ce_r 1) mX8_isBin [.ref (d), .int (x)] σ g (ce_pv (if ce_in x (F 0 2) then 1 else 0) σ g) ce_no := by
  refine ce_enter (by decide) rfl (Nat.le_of_ble_eq_true rfl) (L := [some (.ref (d)), some (.int (x))]) rfl ?_
  refine ce_iload_n dX8_isBin_0 rfl ?_
  refine ce_i2l (v := (x).toInt64) dX8_isBin_1 rfl ?_
  refine ce_lconst (v := 0) dX8_isBin_2 (by decide) ?_
  refine ce_aload_n dX8_isBin_3 rfl ?_
  refine ce_getR dX8_isBin_4 fRX8_16 hD.1 hD.2.1.2.2.1 ?_
  refine ce_iconst (v := nI (2)) dX8_isBin_7 (by decide) ?_
  refine ce_ialdv dX8_isBin_8 (hD.2.2.2.2.1).1 rfl (hD.2.2.2.2.1).2 (by omega) (by decide) ((hr).c2) ?_
  refine ce_iconst (v := nI (1)) dX8_isBin_9 (by decide) ?_
  refine ce_isub (z := (nI (F 0 2)) - (nI (1))) dX8_isBin_10 rfl ?_
  refine ce_i2l (v := ((nI (F 0 2)) - (nI (1))).toInt64) dX8_isBin_11 rfl ?_
  refine ce_cSp dX8_isBin_12 hX8_in kRX8_108 (m_X8_in ((x).toInt64) (0) (((nI (F 0 2)) - (nI (1))).toInt64) ((0 : Int) ≤ (x).toInt ∧ (x).toInt ≤ ((F 0 2 : Int) - 1 : Int)) (cr_io ((cr_tl (x)).trans rfl) (by decide) ((cr_tl ((nI (F 0 2)) - (nI (1)))).trans (cr_s1 (by omega))))) rfl rfl (by decide) (Nat.le_of_ble_eq_true rfl) ?_
  refine ce_iret dX8_isBin_15 rfl (by split <;> rfl) (by decide) (by decide) ?_
  have e : ((0 : Int) ≤ (x).toInt ∧ (x).toInt ≤ ((F 0 2 : Int) - 1 : Int)) ↔ ce_in x (F 0 2) := by unfold ce_in; omega
  exact ⟨congrArg (fun z => some (Value.int z)) (cr_ifc e), rfl, rfl⟩
set_option maxHeartbeats 2000000 in
set_option maxRecDepth 20000 in
theorem m_X8_canDeliver {σ : ce_S} {g : ce_D} (r : Nat) (F : ce_V) (O : Nat → Int32) (hA : ce_LA σ 10 r 189) (hr : cr_row (g r) F O) (w : Nat) (h8 : F 0 2 ≤ 8) (h6 : F 0 0 ≤ 6) (hw : w < 6) (hk : kv_rk F) (h5 : F 5 w ≤ 2) (hs : ce_sum (fun m => F 8 (m * 6 + w)) (F 0 0) ≤ 1000) (hq : ce_sum (kv_room F w) (F 0 2) ≤ 1000) : ce_CT (ce_r 3) mX8_canDeliver [.ref (r), .int (nI (w))] σ g (ce_pv (if F 5 w = 1 ∧ ce_sum (fun m => F 8 (m * 6 + w)) (F 0 0) ≤ ce_sum (kv_room F w) (F 0 2) then 1 else 0) σ g) ce_no := by
  refine ce_enter (by decide) rfl (Nat.le_of_ble_eq_true rfl) (L := [some (.ref (r)), some (.int (nI (w)))]) rfl ?_
  refine ce_aload_n dX8_canDeliver_0 rfl ?_
  refine ce_iload_n dX8_canDeliver_1 rfl ?_
  refine ce_cSp dX8_canDeliver_2 hX8_wineAt kRX8_62 (m_X8_wineAt (w)) rfl rfl (by decide) (Nat.le_of_ble_eq_true rfl) ?_
  refine ce_iconst (v := nI (3)) dX8_canDeliver_5 (by decide) ?_
  refine ce_iadd (z := nI (21 + 6 * w + 3)) dX8_canDeliver_6 (nI_add _ _) ?_
  refine ce_ialdv dX8_canDeliver_7 (hA).1 rfl (hA).2 (by omega) (by decide) ((hr).w3 (by omega)) ?_
  refine ce_iconst (v := nI (1)) dX8_canDeliver_8 (by decide) ?_
  refine ce_icmp_neN (tgt := 30) dX8_canDeliver_9 (by decide) rfl rfl (by omega) (by omega) (fun c_9 => ?_) (fun c_9 => ?_)
  · refine ce_iconst (v := nI (0)) dX8_canDeliver_30 (by decide) ?_
    refine ce_iret dX8_canDeliver_31 rfl (by first | rfl | decide | assumption) (by decide) (by decide) ?_
    exact ⟨congrArg (fun z => some (Value.int z)) ((if_neg (by omega)).symm), rfl, rfl⟩
  · refine ce_aload_n dX8_canDeliver_12 rfl ?_
    refine ce_iload_n dX8_canDeliver_13 rfl ?_
    refine ce_cSp dX8_canDeliver_14 hX8_roomOf kRX8_92 (m_X8_roomOf (r) F O ⟨(hA).1, (hA).2⟩ hr (w) h8 hw hk) rfl rfl (by decide) (Nat.le_of_ble_eq_true rfl) ?_
    refine ce_aload_n dX8_canDeliver_17 rfl ?_
    refine ce_iload_n dX8_canDeliver_18 rfl ?_
    refine ce_iconst (v := nI (1)) dX8_canDeliver_19 (by decide) ?_
    refine ce_cSp dX8_canDeliver_20 hX8_allOf kRX8_95 (m_X8_allOf1 (r) F O ⟨(hA).1, (hA).2⟩ hr (w) h6 hw) rfl rfl (by decide) (Nat.le_of_ble_eq_true rfl) ?_
    refine ce_icmp_ltN (tgt := 30) dX8_canDeliver_23 (by decide) rfl rfl (by omega) (by omega) (fun c_23 => ?_) (fun c_23 => ?_)
    · refine ce_iconst (v := nI (0)) dX8_canDeliver_30 (by decide) ?_
      refine ce_iret dX8_canDeliver_31 rfl (by first | rfl | decide | assumption) (by decide) (by decide) ?_
      exact ⟨congrArg (fun z => some (Value.int z)) ((if_neg (by omega)).symm), rfl, rfl⟩
    · refine ce_iconst (v := nI (1)) dX8_canDeliver_26 (by decide) ?_
      refine ce_goto (tgt := 31) dX8_canDeliver_27 (by decide) ?_
      refine ce_iret dX8_canDeliver_31 rfl (by first | rfl | decide | assumption) (by decide) (by decide) ?_
      exact ⟨congrArg (fun z => some (Value.int z)) ((if_pos (by omega)).symm), rfl, rfl⟩
set_option maxHeartbeats 2000000 in
set_option maxRecDepth 20000 in
theorem m_X8_canMove {σ : ce_S} {g : ce_D} (r : Nat) (F : ce_V) (O : Nat → Int32) (hA : ce_LA σ 10 r 189) (hr : cr_row (g r) F O) (x y n : Nat) (hx : x < 8) (hy : y < 8) (hn : 1 ≤ n ∧ n ≤ 1000) (hk : kv_rk F) : ce_CT (ce_r 3) mX8_canMove [.ref (r), .int (nI (x)), .int (nI (y)), .int (nI (n))] σ g (ce_pv (if n ≤ F 12 x ∧ (F 12 y = 0 ∨ F 13 y = F 13 x) ∧ n ≤ F 11 y - F 12 y then 1 else 0) σ g) ce_no := by
  have hx12 := hk.2.1 x
  have hy12 := hk.2.1 y
  refine ce_enter (by decide) rfl (Nat.le_of_ble_eq_true rfl) (L := [some (.ref (r)), some (.int (nI (x))), some (.int (nI (y))), some (.int (nI (n))), none]) rfl ?_
  refine ce_aload_n dX8_canMove_0 rfl ?_
  refine ce_iload_n dX8_canMove_1 rfl ?_
  refine ce_cSp dX8_canMove_2 hX8_binAt kRX8_58 (m_X8_binAt (y)) rfl rfl (by decide) (Nat.le_of_ble_eq_true rfl) ?_
  refine ce_iconst (v := nI (2)) dX8_canMove_5 (by decide) ?_
  refine ce_iadd (z := nI (57 + 3 * y + 2)) dX8_canMove_6 (nI_add _ _) ?_
  refine ce_ialdv dX8_canMove_7 (hA).1 rfl (hA).2 (by omega) (by decide) ((hr).b2 (by omega)) ?_
  refine ce_if_eqN (tgt := 30) dX8_canMove_8 (by decide) rfl (by omega) (fun c_8 => ?_) (fun c_8 => ?_)
  · refine ce_iconst (v := nI (1)) dX8_canMove_30 (by decide) ?_
    refine ce_goto (tgt := 35) dX8_canMove_31 (by decide) ?_
    refine ce_istore dX8_canMove_35 (Nat.le_of_ble_eq_true rfl) rfl ?_
    refine ce_aload_n dX8_canMove_37 rfl ?_
    refine ce_iload_n dX8_canMove_38 rfl ?_
    refine ce_cSp dX8_canMove_39 hX8_binAt kRX8_58 (m_X8_binAt (x)) rfl rfl (by decide) (Nat.le_of_ble_eq_true rfl) ?_
    refine ce_iconst (v := nI (2)) dX8_canMove_42 (by decide) ?_
    refine ce_iadd (z := nI (57 + 3 * x + 2)) dX8_canMove_43 (nI_add _ _) ?_
    refine ce_ialdv dX8_canMove_44 (hA).1 rfl (hA).2 (by omega) (by decide) ((hr).b2 (by omega)) ?_
    refine ce_iload_n dX8_canMove_45 rfl ?_
    refine ce_icmp_ltN (tgt := 67) dX8_canMove_46 (by decide) rfl rfl (by omega) (by omega) (fun c_46 => ?_) (fun c_46 => ?_)
    · refine ce_iconst (v := nI (0)) dX8_canMove_67 (by decide) ?_
      refine ce_iret dX8_canMove_68 rfl (by first | rfl | decide | assumption) (by decide) (by decide) ?_
      exact ⟨congrArg (fun z => some (Value.int z)) ((if_neg (by omega)).symm), rfl, rfl⟩
    · refine ce_iload dX8_canMove_49 rfl ?_
      refine ce_if_eqN (tgt := 67) dX8_canMove_51 (by decide) rfl (by omega) (fun c_51 => ?_) (fun c_51 => ?_)
      · omega
      · refine ce_aload_n dX8_canMove_54 rfl ?_
        refine ce_iload_n dX8_canMove_55 rfl ?_
        refine ce_cSp dX8_canMove_56 hX8_roomIn kRX8_70 (m_X8_roomIn (r) F O ⟨(hA).1, (hA).2⟩ hr (y) (by omega) (by first | omega | exact (hk.2.1 _).1)) rfl rfl (by decide) (Nat.le_of_ble_eq_true rfl) ?_
        refine ce_iload_n dX8_canMove_59 rfl ?_
        refine ce_icmp_ltN (tgt := 67) dX8_canMove_60 (by decide) rfl rfl (by omega) (by omega) (fun c_60 => ?_) (fun c_60 => ?_)
        · refine ce_iconst (v := nI (0)) dX8_canMove_67 (by decide) ?_
          refine ce_iret dX8_canMove_68 rfl (by first | rfl | decide | assumption) (by decide) (by decide) ?_
          exact ⟨congrArg (fun z => some (Value.int z)) ((if_neg (by omega)).symm), rfl, rfl⟩
        · refine ce_iconst (v := nI (1)) dX8_canMove_63 (by decide) ?_
          refine ce_goto (tgt := 68) dX8_canMove_64 (by decide) ?_
          refine ce_iret dX8_canMove_68 rfl (by first | rfl | decide | assumption) (by decide) (by decide) ?_
          exact ⟨congrArg (fun z => some (Value.int z)) ((if_pos (by omega)).symm), rfl, rfl⟩
  · refine ce_aload_n dX8_canMove_11 rfl ?_
    refine ce_iload_n dX8_canMove_12 rfl ?_
    refine ce_cSp dX8_canMove_13 hX8_binAt kRX8_58 (m_X8_binAt (y)) rfl rfl (by decide) (Nat.le_of_ble_eq_true rfl) ?_
    refine ce_iconst (v := nI (1)) dX8_canMove_16 (by decide) ?_
    refine ce_iadd (z := nI (57 + 3 * y + 1)) dX8_canMove_17 (nI_add _ _) ?_
    refine ce_ialdv dX8_canMove_18 (hA).1 rfl (hA).2 (by omega) (by decide) ((hr).b1 (by omega)) ?_
    refine ce_aload_n dX8_canMove_19 rfl ?_
    refine ce_iload_n dX8_canMove_20 rfl ?_
    refine ce_cSp dX8_canMove_21 hX8_binAt kRX8_58 (m_X8_binAt (x)) rfl rfl (by decide) (Nat.le_of_ble_eq_true rfl) ?_
    refine ce_iconst (v := nI (1)) dX8_canMove_24 (by decide) ?_
    refine ce_iadd (z := nI (57 + 3 * x + 1)) dX8_canMove_25 (nI_add _ _) ?_
    refine ce_ialdv dX8_canMove_26 (hA).1 rfl (hA).2 (by omega) (by decide) ((hr).b1 (by omega)) ?_
    refine ce_icmp_ne (tgt := 34) dX8_canMove_27 (by decide)  (fun c_27 => ?_) (fun c_27 => ?_)
    · have d1 : ¬ F 13 y = F 13 x := fun e => c_27 (congrArg nI e)
      refine ce_iconst (v := nI (0)) dX8_canMove_34 (by decide) ?_
      refine ce_istore dX8_canMove_35 (Nat.le_of_ble_eq_true rfl) rfl ?_
      refine ce_aload_n dX8_canMove_37 rfl ?_
      refine ce_iload_n dX8_canMove_38 rfl ?_
      refine ce_cSp dX8_canMove_39 hX8_binAt kRX8_58 (m_X8_binAt (x)) rfl rfl (by decide) (Nat.le_of_ble_eq_true rfl) ?_
      refine ce_iconst (v := nI (2)) dX8_canMove_42 (by decide) ?_
      refine ce_iadd (z := nI (57 + 3 * x + 2)) dX8_canMove_43 (nI_add _ _) ?_
      refine ce_ialdv dX8_canMove_44 (hA).1 rfl (hA).2 (by omega) (by decide) ((hr).b2 (by omega)) ?_
      refine ce_iload_n dX8_canMove_45 rfl ?_
      refine ce_icmp_ltN (tgt := 67) dX8_canMove_46 (by decide) rfl rfl (by omega) (by omega) (fun c_46 => ?_) (fun c_46 => ?_)
      · refine ce_iconst (v := nI (0)) dX8_canMove_67 (by decide) ?_
        refine ce_iret dX8_canMove_68 rfl (by first | rfl | decide | assumption) (by decide) (by decide) ?_
        exact ⟨congrArg (fun z => some (Value.int z)) ((if_neg (by omega)).symm), rfl, rfl⟩
      · refine ce_iload dX8_canMove_49 rfl ?_
        refine ce_if_eqN (tgt := 67) dX8_canMove_51 (by decide) rfl (by omega) (fun c_51 => ?_) (fun c_51 => ?_)
        · refine ce_iconst (v := nI (0)) dX8_canMove_67 (by decide) ?_
          refine ce_iret dX8_canMove_68 rfl (by first | rfl | decide | assumption) (by decide) (by decide) ?_
          exact ⟨congrArg (fun z => some (Value.int z)) ((if_neg (by omega)).symm), rfl, rfl⟩
        · omega
    · have d2 : 0 < F 12 x → F 13 y = F 13 x := fun h => (nI_eq (by have := hk.2.2.2.1 y (by omega); omega) (by have := hk.2.2.2.1 x h; omega)).mp c_27
      refine ce_iconst (v := nI (1)) dX8_canMove_30 (by decide) ?_
      refine ce_goto (tgt := 35) dX8_canMove_31 (by decide) ?_
      refine ce_istore dX8_canMove_35 (Nat.le_of_ble_eq_true rfl) rfl ?_
      refine ce_aload_n dX8_canMove_37 rfl ?_
      refine ce_iload_n dX8_canMove_38 rfl ?_
      refine ce_cSp dX8_canMove_39 hX8_binAt kRX8_58 (m_X8_binAt (x)) rfl rfl (by decide) (Nat.le_of_ble_eq_true rfl) ?_
      refine ce_iconst (v := nI (2)) dX8_canMove_42 (by decide) ?_
      refine ce_iadd (z := nI (57 + 3 * x + 2)) dX8_canMove_43 (nI_add _ _) ?_
      refine ce_ialdv dX8_canMove_44 (hA).1 rfl (hA).2 (by omega) (by decide) ((hr).b2 (by omega)) ?_
      refine ce_iload_n dX8_canMove_45 rfl ?_
      refine ce_icmp_ltN (tgt := 67) dX8_canMove_46 (by decide) rfl rfl (by omega) (by omega) (fun c_46 => ?_) (fun c_46 => ?_)
      · refine ce_iconst (v := nI (0)) dX8_canMove_67 (by decide) ?_
        refine ce_iret dX8_canMove_68 rfl (by first | rfl | decide | assumption) (by decide) (by decide) ?_
        exact ⟨congrArg (fun z => some (Value.int z)) ((if_neg (by omega)).symm), rfl, rfl⟩
      · refine ce_iload dX8_canMove_49 rfl ?_
        refine ce_if_eqN (tgt := 67) dX8_canMove_51 (by decide) rfl (by omega) (fun c_51 => ?_) (fun c_51 => ?_)
        · omega
        · refine ce_aload_n dX8_canMove_54 rfl ?_
          refine ce_iload_n dX8_canMove_55 rfl ?_
          refine ce_cSp dX8_canMove_56 hX8_roomIn kRX8_70 (m_X8_roomIn (r) F O ⟨(hA).1, (hA).2⟩ hr (y) (by omega) (by first | omega | exact (hk.2.1 _).1)) rfl rfl (by decide) (Nat.le_of_ble_eq_true rfl) ?_
          refine ce_iload_n dX8_canMove_59 rfl ?_
          refine ce_icmp_ltN (tgt := 67) dX8_canMove_60 (by decide) rfl rfl (by omega) (by omega) (fun c_60 => ?_) (fun c_60 => ?_)
          · refine ce_iconst (v := nI (0)) dX8_canMove_67 (by decide) ?_
            refine ce_iret dX8_canMove_68 rfl (by first | rfl | decide | assumption) (by decide) (by decide) ?_
            exact ⟨congrArg (fun z => some (Value.int z)) ((if_neg (by omega)).symm), rfl, rfl⟩
          · refine ce_iconst (v := nI (1)) dX8_canMove_63 (by decide) ?_
            refine ce_goto (tgt := 68) dX8_canMove_64 (by decide) ?_
            refine ce_iret dX8_canMove_68 rfl (by first | rfl | decide | assumption) (by decide) (by decide) ?_
            exact ⟨congrArg (fun z => some (Value.int z)) ((if_pos (by omega)).symm), rfl, rfl⟩
set_option maxHeartbeats 2000000 in
set_option maxRecDepth 20000 in
theorem m_X8_owns {σ : ce_S} {g : ce_D} (r : Nat) (F : ce_V) (O : Nat → Int32) (hA : ce_LA σ 10 r 189) (hr : cr_row (g r) F O) (m w n : Nat) (hm9 : m ≤ 1000) (hw9 : w ≤ 1000) (hn9 : n ≤ 1000) (h6 : F 0 0 ≤ 6) (h7 : F 0 1 ≤ 6) (h9 : ∀ i, F 9 i ≤ 1000) : ce_CT (ce_r 2) mX8_owns [.ref (r), .int (nI (m)), .int (nI (w)), .int (nI (n))] σ g (ce_pv (if m < F 0 0 ∧ w < F 0 1 ∧ n ≤ F 9 (m * 6 + w) then 1 else 0) σ g) ce_no := by
  have hmw := h9 (m * 6 + w)
  refine ce_enter (by decide) rfl (Nat.le_of_ble_eq_true rfl) (L := [some (.ref (r)), some (.int (nI (m))), some (.int (nI (w))), some (.int (nI (n)))]) rfl ?_
  refine ce_iload_n dX8_owns_0 rfl ?_
  refine ce_aload_n dX8_owns_1 rfl ?_
  refine ce_iconst (v := nI (0)) dX8_owns_2 (by decide) ?_
  refine ce_ialdv dX8_owns_3 (hA).1 rfl (hA).2 (by omega) (by decide) ((hr).c0) ?_
  refine ce_icmp_geN (tgt := 31) dX8_owns_4 (by decide) rfl rfl (by omega) (by omega) (fun c_4 => ?_) (fun c_4 => ?_)
  · refine ce_iconst (v := nI (0)) dX8_owns_31 (by decide) ?_
    refine ce_iret dX8_owns_32 rfl (by first | rfl | decide | assumption) (by decide) (by decide) ?_
    exact ⟨congrArg (fun z => some (Value.int z)) ((if_neg (by omega)).symm), rfl, rfl⟩
  · refine ce_iload_n dX8_owns_7 rfl ?_
    refine ce_aload_n dX8_owns_8 rfl ?_
    refine ce_iconst (v := nI (1)) dX8_owns_9 (by decide) ?_
    refine ce_ialdv dX8_owns_10 (hA).1 rfl (hA).2 (by omega) (by decide) ((hr).c1) ?_
    refine ce_icmp_geN (tgt := 31) dX8_owns_11 (by decide) rfl rfl (by omega) (by omega) (fun c_11 => ?_) (fun c_11 => ?_)
    · refine ce_iconst (v := nI (0)) dX8_owns_31 (by decide) ?_
      refine ce_iret dX8_owns_32 rfl (by first | rfl | decide | assumption) (by decide) (by decide) ?_
      exact ⟨congrArg (fun z => some (Value.int z)) ((if_neg (by omega)).symm), rfl, rfl⟩
    · refine ce_aload_n dX8_owns_14 rfl ?_
      refine ce_iload_n dX8_owns_15 rfl ?_
      refine ce_iload_n dX8_owns_16 rfl ?_
      refine ce_cSp dX8_owns_17 hX8_hold kRX8_54 (m_X8_hold (m) (w)) rfl rfl (by decide) (Nat.le_of_ble_eq_true rfl) ?_
      refine ce_iconst (v := nI (2)) dX8_owns_20 (by decide) ?_
      refine ce_iadd (z := nI (81 + 18 * m + 3 * w + 2)) dX8_owns_21 (nI_add _ _) ?_
      refine ce_ialdv dX8_owns_22 (hA).1 rfl (hA).2 (by omega) (by decide) ((hr).h2 (by omega) (by omega)) ?_
      refine ce_iload_n dX8_owns_23 rfl ?_
      refine ce_icmp_ltN (tgt := 31) dX8_owns_24 (by decide) rfl rfl (by omega) (by omega) (fun c_24 => ?_) (fun c_24 => ?_)
      · refine ce_iconst (v := nI (0)) dX8_owns_31 (by decide) ?_
        refine ce_iret dX8_owns_32 rfl (by first | rfl | decide | assumption) (by decide) (by decide) ?_
        exact ⟨congrArg (fun z => some (Value.int z)) ((if_neg (by omega)).symm), rfl, rfl⟩
      · refine ce_iconst (v := nI (1)) dX8_owns_27 (by decide) ?_
        refine ce_goto (tgt := 32) dX8_owns_28 (by decide) ?_
        refine ce_iret dX8_owns_32 rfl (by first | rfl | decide | assumption) (by decide) (by decide) ?_
        exact ⟨congrArg (fun z => some (Value.int z)) ((if_pos (by omega)).symm), rfl, rfl⟩
