set_option maxHeartbeats 2000000 in
set_option maxRecDepth 20000 in
theorem m_X7_copyRow {σ : ce_S} {g : ce_D} (a0 a n : Nat) (h0 : ce_LA σ 10 a0 n) (h1 : ce_LA σ 10 a n) (hn : n ≤ 1000) : ce_CT (ce_r 1) mX7_copyRow [.ref (a0), .ref (a)] σ g (ce_uv σ (fun g' => g' = ce_cp g a0 a n)) ce_no := by
  refine ce_enter (by decide) rfl (Nat.le_of_ble_eq_true rfl) (L := [some (.ref (a0)), some (.ref (a))]) rfl ?_
  refine ce_aload_n dX7_copyRow_0 rfl ?_
  refine ce_iconst (v := nI (0)) dX7_copyRow_1 (by decide) ?_
  refine ce_aload_n dX7_copyRow_2 rfl ?_
  refine ce_iconst (v := nI (0)) dX7_copyRow_3 (by decide) ?_
  refine ce_aload_n dX7_copyRow_4 rfl ?_
  refine ce_alen dX7_copyRow_5 (Or.inl (h0).1) (h0).2 ?_
  refine ce_aload_n dX7_copyRow_6 rfl ?_
  refine ce_alen dX7_copyRow_7 (Or.inl (h1).1) (h1).2 ?_
  refine ce_min dX7_copyRow_8 kRX7_283 rfl rfl (by omega) (by omega) (by decide) (Nat.le_of_ble_eq_true rfl) ?_
  refine ce_copy dX7_copyRow_11 kRX7_288 wx_nat wx_stat wx_sys (h0).1 (h1).1 rfl (by rw [h0.2, Nat.min_self]; omega) (by rw [h1.2, Nat.min_self]; omega) (by omega) (by decide) (Nat.le_of_ble_eq_true rfl) ?_
  generalize hcg1 : ce_cp g (a0) (a) (min (n) (n)) = cg1
  exact ce_vret dX7_copyRow_14 rfl (by decide) (by decide) ⟨rfl, rfl, (by rw [← hcg1, Nat.min_self])⟩
set_option maxHeartbeats 2000000 in
set_option maxRecDepth 20000 in
theorem w_X7_sumOf {σ : ce_S} {g : ce_D} (a n : Nat) (h0 : ce_LA σ 10 a n) (hn : n ≤ 1000) : ∀ (n9 : Nat) (i : Nat), n - i < n9 → i ≤ n → ce_WP (ce_r 0) mX7_sumOf 0 0 4 [some (.ref (a)), some (.int (ce_isum (g a) i)), some (.int (nI i))] [] σ g (ce_pv (ce_isum (g a) n) σ g) ce_no := by
  intro n9
  induction n9 with
  | zero =>
    intros
    omega
  | succ n9 ih =>
    intro i hm hi
    refine ce_iload_n dX7_sumOf_4 rfl ?_
    refine ce_aload_n dX7_sumOf_5 rfl ?_
    refine ce_alen dX7_sumOf_6 (Or.inl (h0).1) (h0).2 ?_
    refine ce_icmp_geN (tgt := 22) dX7_sumOf_7 (by decide) rfl rfl (by omega) (by omega) (fun c_7 => ?_) (fun c_7 => ?_)
    · refine ce_iload_n dX7_sumOf_22 rfl ?_
      refine ce_iret dX7_sumOf_23 rfl rfl (by decide) (by decide) ?_
      exact ⟨congrArg (fun z => some (Value.int z)) (by rw [show i = n by omega]), rfl, rfl⟩
    · refine ce_iload_n dX7_sumOf_10 rfl ?_
      refine ce_aload_n dX7_sumOf_11 rfl ?_
      refine ce_iload_n dX7_sumOf_12 rfl ?_
      refine ce_iald dX7_sumOf_13 (h0).1 rfl (h0).2 (by omega) (by omega) ?_
      refine ce_iadd (z := ce_isum (g a) (i + 1)) dX7_sumOf_14 rfl ?_
      refine ce_istore_n dX7_sumOf_15 (Nat.le_of_ble_eq_true rfl) rfl ?_
      refine ce_iinc (v := nI (i + 1)) dX7_sumOf_16 rfl (ce_inc1 _) (Nat.le_of_ble_eq_true rfl) rfl ?_
      refine ce_goto (tgt := 4) dX7_sumOf_19 (by decide) ?_
      exact ih (i + 1) (by omega) (by omega)
set_option maxHeartbeats 2000000 in
set_option maxRecDepth 20000 in
theorem m_X7_sumOf {σ : ce_S} {g : ce_D} (a n : Nat) (h0 : ce_LA σ 10 a n) (hn : n ≤ 1000) : ce_CT (ce_r 0) mX7_sumOf [.ref (a)] σ g (ce_pv (ce_isum (g a) n) σ g) ce_no := by
  refine ce_enter (by decide) rfl (Nat.le_of_ble_eq_true rfl) (L := [some (.ref (a)), none, none]) rfl ?_
  refine ce_iconst (v := nI (0)) dX7_sumOf_0 (by decide) ?_
  refine ce_istore_n dX7_sumOf_1 (Nat.le_of_ble_eq_true rfl) rfl ?_
  refine ce_iconst (v := nI (0)) dX7_sumOf_2 (by decide) ?_
  refine ce_istore_n dX7_sumOf_3 (Nat.le_of_ble_eq_true rfl) rfl ?_
  exact w_X7_sumOf a n h0 hn (n + 1) 0 (by omega) (by omega)
set_option maxHeartbeats 2000000 in
set_option maxRecDepth 20000 in
theorem m_X5_of {σ : ce_S} {g : ce_D} (h m w : Nat) (hT : ce_LT σ h) (hm : m < 6) (hw : w < 6) : ce_CT (ce_r 0) mX5_of [.ref (h), .int (nI (m)), .int (nI (w))] σ g (ce_pv (g (h + 1) (m * 6 + w)) σ g) ce_no := by
  refine ce_enter (by decide) rfl (Nat.le_of_ble_eq_true rfl) (L := [some (.ref (h)), some (.int (nI (m))), some (.int (nI (w)))]) rfl ?_
  refine ce_aload_n dX5_of_0 rfl ?_
  refine ce_getR dX5_of_1 fRX5_9 (hT).1 (hT).2.1 ?_
  refine ce_iload_n dX5_of_4 rfl ?_
  refine ce_bipush (v := nI (6)) dX5_of_5 (by decide) ?_
  refine ce_imul (z := nI (m * 6)) dX5_of_7 (pk_mul _ _) ?_
  refine ce_iload_n dX5_of_8 rfl ?_
  refine ce_iadd (z := nI (m * 6 + w)) dX5_of_9 (nI_add _ _) ?_
  refine ce_iald dX5_of_10 ((hT).2.2).1 rfl ((hT).2.2).2 (by omega) (by decide) ?_
  refine ce_iret dX5_of_11 rfl rfl (by decide) (by decide) ?_
  exact ⟨rfl, rfl, rfl⟩
set_option maxHeartbeats 2000000 in
set_option maxRecDepth 20000 in
theorem m_X5_put {σ : ce_S} {g : ce_D} (h m w : Nat) (hT : ce_LT σ h) (hm : m < 6) (hw : w < 6) (x : Int32) : ce_CT (ce_r 0) mX5_put [.ref (h), .int (nI (m)), .int (nI (w)), .int (x)] σ g (ce_uv σ (fun g' => g' = ce_up g (h + 1) (m * 6 + w) x)) ce_no := by
  refine ce_enter (by decide) rfl (Nat.le_of_ble_eq_true rfl) (L := [some (.ref (h)), some (.int (nI (m))), some (.int (nI (w))), some (.int (x))]) rfl ?_
  refine ce_aload_n dX5_put_0 rfl ?_
  refine ce_getR dX5_put_1 fRX5_9 (hT).1 (hT).2.1 ?_
  refine ce_iload_n dX5_put_4 rfl ?_
  refine ce_bipush (v := nI (6)) dX5_put_5 (by decide) ?_
  refine ce_imul (z := nI (m * 6)) dX5_put_7 (pk_mul _ _) ?_
  refine ce_iload_n dX5_put_8 rfl ?_
  refine ce_iadd (z := nI (m * 6 + w)) dX5_put_9 (nI_add _ _) ?_
  refine ce_iload_n dX5_put_10 rfl ?_
  refine ce_iast dX5_put_11 ((hT).2.2).1 rfl ((hT).2.2).2 (by omega) (by decide) ?_
  generalize hcg1 : ce_up g (h + 1) (m * 6 + w) (x) = cg1
  exact ce_vret dX5_put_12 rfl (by decide) (by decide) ⟨rfl, rfl, (by subst hcg1; rfl)⟩
set_option maxHeartbeats 2000000 in
set_option maxRecDepth 20000 in
theorem m_X5_add {σ : ce_S} {g : ce_D} (h m w : Nat) (hT : ce_LT σ h) (hm : m < 6) (hw : w < 6) (x : Int32) : ce_CT (ce_r 0) mX5_add [.ref (h), .int (nI (m)), .int (nI (w)), .int (x)] σ g (ce_uv σ (fun g' => g' = ce_up g (h + 1) (m * 6 + w) (g (h + 1) (m * 6 + w) + x))) ce_no := by
  refine ce_enter (by decide) rfl (Nat.le_of_ble_eq_true rfl) (L := [some (.ref (h)), some (.int (nI (m))), some (.int (nI (w))), some (.int (x))]) rfl ?_
  refine ce_aload_n dX5_add_0 rfl ?_
  refine ce_getR dX5_add_1 fRX5_9 (hT).1 (hT).2.1 ?_
  refine ce_iload_n dX5_add_4 rfl ?_
  refine ce_bipush (v := nI (6)) dX5_add_5 (by decide) ?_
  refine ce_imul (z := nI (m * 6)) dX5_add_7 (pk_mul _ _) ?_
  refine ce_iload_n dX5_add_8 rfl ?_
  refine ce_iadd (z := nI (m * 6 + w)) dX5_add_9 (nI_add _ _) ?_
  refine ce_dup2 dX5_add_10 rfl rfl ?_
  refine ce_iald dX5_add_11 ((hT).2.2).1 rfl ((hT).2.2).2 (by omega) (by decide) ?_
  refine ce_iload_n dX5_add_12 rfl ?_
  refine ce_iadd (z := (g (h + 1) (m * 6 + w)) + (x)) dX5_add_13 rfl ?_
  refine ce_iast dX5_add_14 ((hT).2.2).1 rfl ((hT).2.2).2 (by omega) (by decide) ?_
  generalize hcg1 : ce_up g (h + 1) (m * 6 + w) ((g (h + 1) (m * 6 + w)) + (x)) = cg1
  exact ce_vret dX5_add_15 rfl (by decide) (by decide) ⟨rfl, rfl, (by subst hcg1; rfl)⟩
set_option maxHeartbeats 2000000 in
set_option maxRecDepth 20000 in
theorem w_X5_ofMember {σ : ce_S} {g : ce_D} (h m : Nat) (hT : ce_LT σ h) (hm : m < 6) : ∀ (n9 : Nat) (i : Nat), 6 - i < n9 → i ≤ 6 → ce_WP (ce_r 1) mX5_ofMember 0 0 4 [some (.ref (h)), some (.int (nI (m))), some (.int (ce_isum (fun w => g (h + 1) (m * 6 + w)) i)), some (.int (nI (i)))] [] σ g (ce_pv (ce_isum (fun w => g (h + 1) (m * 6 + w)) 6) σ g) ce_no := by
  intro n9
  induction n9 with
  | zero =>
    intros
    omega
  | succ n9 ih =>
    intro i hm hi
    refine ce_iload_n dX5_ofMember_4 rfl ?_
    refine ce_bipush (v := nI (6)) dX5_ofMember_5 (by decide) ?_
    refine ce_icmp_geN (tgt := 25) dX5_ofMember_7 (by decide) rfl rfl (by omega) (by omega) (fun c_7 => ?_) (fun c_7 => ?_)
    · refine ce_iload_n dX5_ofMember_25 rfl ?_
      refine ce_iret dX5_ofMember_26 rfl rfl (by decide) (by decide) ?_
      exact ⟨congrArg (fun z => some (Value.int z)) (by rw [show i = 6 by omega]), rfl, rfl⟩
    · refine ce_iload_n dX5_ofMember_10 rfl ?_
      refine ce_aload_n dX5_ofMember_11 rfl ?_
      refine ce_iload_n dX5_ofMember_12 rfl ?_
      refine ce_iload_n dX5_ofMember_13 rfl ?_
      refine ce_cVp dX5_ofMember_14 hX5_of kRX5_15 (m_X5_of (h) (m) (i) hT (by omega) (by omega)) rfl rfl (hT).1 rfl (by decide) (Nat.le_of_ble_eq_true rfl) ?_
      refine ce_iadd (z := ce_isum (fun w => g (h + 1) (m * 6 + w)) (i + 1)) dX5_ofMember_17 rfl ?_
      refine ce_istore_n dX5_ofMember_18 (Nat.le_of_ble_eq_true rfl) rfl ?_
      refine ce_iinc (v := nI (i + 1)) dX5_ofMember_19 rfl (ce_inc1 _) (Nat.le_of_ble_eq_true rfl) rfl ?_
      refine ce_goto (tgt := 4) dX5_ofMember_22 (by decide) ?_
      exact ih (i + 1) (by omega) (by omega)
set_option maxHeartbeats 2000000 in
set_option maxRecDepth 20000 in
theorem m_X5_ofMember {σ : ce_S} {g : ce_D} (h m : Nat) (hT : ce_LT σ h) (hm : m < 6) : ce_CT (ce_r 1) mX5_ofMember [.ref (h), .int (nI (m))] σ g (ce_pv (ce_isum (fun w => g (h + 1) (m * 6 + w)) 6) σ g) ce_no := by
  refine ce_enter (by decide) rfl (Nat.le_of_ble_eq_true rfl) (L := [some (.ref (h)), some (.int (nI (m))), none, none]) rfl ?_
  refine ce_iconst (v := nI (0)) dX5_ofMember_0 (by decide) ?_
  refine ce_istore_n dX5_ofMember_1 (Nat.le_of_ble_eq_true rfl) rfl ?_
  refine ce_iconst (v := nI (0)) dX5_ofMember_2 (by decide) ?_
  refine ce_istore_n dX5_ofMember_3 (Nat.le_of_ble_eq_true rfl) rfl ?_
  exact w_X5_ofMember h m hT hm 7 0 (by omega) (by omega)
set_option maxHeartbeats 2000000 in
set_option maxRecDepth 20000 in
theorem w_X5_ofWine {σ : ce_S} {g : ce_D} (h w : Nat) (hT : ce_LT σ h) (hw : w < 6) : ∀ (n9 : Nat) (i : Nat), 6 - i < n9 → i ≤ 6 → ce_WP (ce_r 1) mX5_ofWine 0 0 4 [some (.ref (h)), some (.int (nI (w))), some (.int (ce_isum (fun m => g (h + 1) (m * 6 + w)) i)), some (.int (nI (i)))] [] σ g (ce_pv (ce_isum (fun m => g (h + 1) (m * 6 + w)) 6) σ g) ce_no := by
  intro n9
  induction n9 with
  | zero =>
    intros
    omega
  | succ n9 ih =>
    intro i hm hi
    refine ce_iload_n dX5_ofWine_4 rfl ?_
    refine ce_bipush (v := nI (6)) dX5_ofWine_5 (by decide) ?_
    refine ce_icmp_geN (tgt := 25) dX5_ofWine_7 (by decide) rfl rfl (by omega) (by omega) (fun c_7 => ?_) (fun c_7 => ?_)
    · refine ce_iload_n dX5_ofWine_25 rfl ?_
      refine ce_iret dX5_ofWine_26 rfl rfl (by decide) (by decide) ?_
      exact ⟨congrArg (fun z => some (Value.int z)) (by rw [show i = 6 by omega]), rfl, rfl⟩
    · refine ce_iload_n dX5_ofWine_10 rfl ?_
      refine ce_aload_n dX5_ofWine_11 rfl ?_
      refine ce_iload_n dX5_ofWine_12 rfl ?_
      refine ce_iload_n dX5_ofWine_13 rfl ?_
      refine ce_cVp dX5_ofWine_14 hX5_of kRX5_15 (m_X5_of (h) (i) (w) hT (by omega) (by omega)) rfl rfl (hT).1 rfl (by decide) (Nat.le_of_ble_eq_true rfl) ?_
      refine ce_iadd (z := ce_isum (fun m => g (h + 1) (m * 6 + w)) (i + 1)) dX5_ofWine_17 rfl ?_
      refine ce_istore_n dX5_ofWine_18 (Nat.le_of_ble_eq_true rfl) rfl ?_
      refine ce_iinc (v := nI (i + 1)) dX5_ofWine_19 rfl (ce_inc1 _) (Nat.le_of_ble_eq_true rfl) rfl ?_
      refine ce_goto (tgt := 4) dX5_ofWine_22 (by decide) ?_
      exact ih (i + 1) (by omega) (by omega)
set_option maxHeartbeats 2000000 in
set_option maxRecDepth 20000 in
theorem m_X5_ofWine {σ : ce_S} {g : ce_D} (h w : Nat) (hT : ce_LT σ h) (hw : w < 6) : ce_CT (ce_r 1) mX5_ofWine [.ref (h), .int (nI (w))] σ g (ce_pv (ce_isum (fun m => g (h + 1) (m * 6 + w)) 6) σ g) ce_no := by
  refine ce_enter (by decide) rfl (Nat.le_of_ble_eq_true rfl) (L := [some (.ref (h)), some (.int (nI (w))), none, none]) rfl ?_
  refine ce_iconst (v := nI (0)) dX5_ofWine_0 (by decide) ?_
  refine ce_istore_n dX5_ofWine_1 (Nat.le_of_ble_eq_true rfl) rfl ?_
  refine ce_iconst (v := nI (0)) dX5_ofWine_2 (by decide) ?_
  refine ce_istore_n dX5_ofWine_3 (Nat.le_of_ble_eq_true rfl) rfl ?_
  exact w_X5_ofWine h w hT hw 7 0 (by omega) (by omega)
set_option maxHeartbeats 2000000 in
set_option maxRecDepth 20000 in
theorem m_X5_ofAll {σ : ce_S} {g : ce_D} (h : Nat) (hT : ce_LT σ h) : ce_CT (ce_r 1) mX5_ofAll [.ref (h)] σ g (ce_pv (ce_isum (g (h + 1)) 36) σ g) ce_no := by
  refine ce_enter (by decide) rfl (Nat.le_of_ble_eq_true rfl) (L := [some (.ref (h))]) rfl ?_
  refine ce_aload_n dX5_ofAll_0 rfl ?_
  refine ce_getR dX5_ofAll_1 fRX5_9 (hT).1 (hT).2.1 ?_
  refine ce_cSNp dX5_ofAll_4 hX7_sumOf kRX5_19 (m_X7_sumOf (h + 1) 36 ⟨((hT).2.2).1, ((hT).2.2).2⟩ (by decide)) rfl rfl (by decide) (Nat.le_of_ble_eq_true rfl) ?_
  refine ce_iret dX5_ofAll_7 rfl rfl (by decide) (by decide) ?_
  exact ⟨rfl, rfl, rfl⟩
set_option maxHeartbeats 2000000 in
set_option maxRecDepth 20000 in
theorem m_X5_copyFrom {σ : ce_S} {g : ce_D} (h o : Nat) (hT : ce_LT σ h) (hO : ce_LT σ o) : ce_CT (ce_r 2) mX5_copyFrom [.ref (h), .ref (o)] σ g (ce_uv σ (fun g' => g' = ce_cp g (o + 1) (h + 1) 36)) ce_no := by
  refine ce_enter (by decide) rfl (Nat.le_of_ble_eq_true rfl) (L := [some (.ref (h)), some (.ref (o))]) rfl ?_
  refine ce_aload_n dX5_copyFrom_0 rfl ?_
  refine ce_getR dX5_copyFrom_1 fRX5_9 (hO).1 (hO).2.1 ?_
  refine ce_aload_n dX5_copyFrom_4 rfl ?_
  refine ce_getR dX5_copyFrom_5 fRX5_9 (hT).1 (hT).2.1 ?_
  refine ce_cSNu dX5_copyFrom_8 hX7_copyRow kRX5_23 (m_X7_copyRow (o + 1) (h + 1) 36 ⟨((hO).2.2).1, ((hO).2.2).2⟩ ⟨((hT).2.2).1, ((hT).2.2).2⟩ (by decide)) rfl rfl (by decide) (Nat.le_of_ble_eq_true rfl) (fun cg1 hcg1 => ?_)
  exact ce_vret dX5_copyFrom_11 rfl (by decide) (by decide) ⟨rfl, rfl, hcg1⟩
