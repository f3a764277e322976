/-- a number of so many digits (their weights are given), from lo to hi: the number, and where the reader stands -/
def kx_num (T : Nat → Nat) (len lo hi : Nat) : List Nat → Nat → Nat → Option Nat × Nat
  | [], v, p => (some v, p)
  | s :: r, v, p => if p < len ∧ 48 ≤ T p ∧ T p ≤ 57 then (if hi < v + (T p - 48) * s ∨ v + (T p - 48) * s + s - 1 < lo then (none, p) else kx_num T len lo hi r (v + (T p - 48) * s) (p + 1)) else (none, p)
theorem kx_num_n {T : Nat → Nat} {len lo hi s v p : Nat} {r : List Nat} (h : ¬ (p < len ∧ 48 ≤ T p ∧ T p ≤ 57)) : kx_num T len lo hi (s :: r) v p = (none, p) := if_neg h
theorem kx_num_x {T : Nat → Nat} {len lo hi s v p : Nat} {r : List Nat} (h : p < len ∧ 48 ≤ T p ∧ T p ≤ 57) (k : hi < v + (T p - 48) * s ∨ v + (T p - 48) * s + s - 1 < lo) : kx_num T len lo hi (s :: r) v p = (none, p) := (if_pos h).trans (if_pos k)
theorem kx_num_y {T : Nat → Nat} {len lo hi s v p : Nat} {r : List Nat} (h : p < len ∧ 48 ≤ T p ∧ T p ≤ 57) (k : ¬ (hi < v + (T p - 48) * s ∨ v + (T p - 48) * s + s - 1 < lo)) : kx_num T len lo hi (s :: r) v p = kx_num T len lo hi r (v + (T p - 48) * s) (p + 1) := (if_pos h).trans (if_neg k)
/-- the reader's place is p, only its object changed -/
def kx_at (g g1 : ce_D) (a len p : Nat) : Prop := g1 (a + 21) 1 = nI len ∧ g1 (a + 21) 2 = nI p ∧ ∀ x, x ≠ a + 21 → g1 x = g x
theorem kx_num_le1 {T : Nat → Nat} {len lo hi v p n q : Nat} (h : kx_num T len lo hi [1] v p = (some n, q)) : lo ≤ n ∧ n ≤ hi ∧ q = p + 1 ∧ p < len := by
  unfold kx_num kx_num at h
  split at h
  · split at h
    · cases h
    · cases h
      omega
  · cases h
theorem kx_num_le2 {T : Nat → Nat} {len lo hi v p n q : Nat} (h : kx_num T len lo hi [10, 1] v p = (some n, q)) : lo ≤ n ∧ n ≤ hi ∧ q = p + 2 ∧ q ≤ len := by
  rw [kx_num] at h
  split at h
  · split at h
    · cases h
    · have := kx_num_le1 h
      omega
  · cases h
theorem kx_num_le3 {T : Nat → Nat} {len lo hi v p n q : Nat} (h : kx_num T len lo hi [100, 10, 1] v p = (some n, q)) : lo ≤ n ∧ n ≤ hi ∧ q = p + 3 ∧ q ≤ len := by
  rw [kx_num] at h
  split at h
  · split at h
    · cases h
    · have := kx_num_le2 h
      omega
  · cases h
/-- where a number that isn't one was left -/
theorem kx_num_q {T : Nat → Nat} {len lo hi : Nat} : ∀ {l : List Nat} {v p q : Nat}, kx_num T len lo hi l v p = (none, q) → p ≤ q ∧ (p ≤ len → q ≤ len)
  | [], v, p, q, h => by cases h
  | s :: r, v, p, q, h => by
    rw [kx_num] at h
    split at h
    · split at h
      · cases h; exact ⟨Nat.le_refl _, fun e => e⟩
      · have := kx_num_q h
        exact ⟨by omega, fun _ => this.2 (by omega)⟩
    · cases h; exact ⟨Nat.le_refl _, fun e => e⟩
set_option maxHeartbeats 2000000 in
set_option maxRecDepth 20000 in
theorem w_X6_num0 {σ : ce_S} {g0 : ce_D} (a : Nat) (b : Nat → Nat) (hX : ce_LX σ a b) (T : Nat → Nat) (len d lo hi : Nat) (h120 : len ≤ 120) (hlo : lo < 1000) (hhi : hi < 1000) (hd : d ≤ 3) (hch : ∀ i, i < len → g0 (a + 22) i = nI (T i)) (hT : ∀ i, i < len → T i < 256) : ∀ (g : ce_D) (v p i : Nat), i + 0 = d → v ≤ hi → p ≤ 1000 → kx_at g0 g a len p → ce_WP (ce_r 1) mX6_readNumber 0 0 31 [some (.ref (a + 21)), some (.int (nI (d))), some (.int (nI (lo))), some (.int (nI (hi))), some (.int (nI (1))), some (.int (nI (v))), some (.int (nI (i)))] [] σ g (ce_rv σ (fun z9 g1 => z9 = ce_o (kx_num T len lo hi [] (v) (p)).1 ∧ kx_at g0 g1 a len (kx_num T len lo hi [] (v) (p)).2)) ce_no := by
  intro g v p i hik hv hp9 hA
  have hcg : ∀ i, i < len → g (a + 22) i = nI (T i) := fun i hi => by rw [hA.2.2 _ (by omega)]; exact hch i hi
  refine ce_iload dX6_readNumber_31 rfl ?_
  refine ce_iload_n dX6_readNumber_33 rfl ?_
  refine ce_icmp_geN (tgt := 142) dX6_readNumber_34 (by decide) rfl rfl (by omega) (by omega) (fun c_34 => ?_) (fun c_34 => ?_)
  · refine ce_iload dX6_readNumber_142 rfl ?_
    refine ce_iret dX6_readNumber_144 rfl rfl (by decide) (by decide) ?_
    exact ⟨_, rfl, rfl, rfl, hA⟩
  · omega
set_option maxHeartbeats 2000000 in
set_option maxRecDepth 20000 in
theorem w_X6_num1 {σ : ce_S} {g0 : ce_D} (a : Nat) (b : Nat → Nat) (hX : ce_LX σ a b) (T : Nat → Nat) (len d lo hi : Nat) (h120 : len ≤ 120) (hlo : lo < 1000) (hhi : hi < 1000) (hd : d ≤ 3) (hch : ∀ i, i < len → g0 (a + 22) i = nI (T i)) (hT : ∀ i, i < len → T i < 256) : ∀ (g : ce_D) (v p i : Nat), i + 1 = d → v ≤ hi → p ≤ 1000 → kx_at g0 g a len p → ce_WP (ce_r 1) mX6_readNumber 0 0 31 [some (.ref (a + 21)), some (.int (nI (d))), some (.int (nI (lo))), some (.int (nI (hi))), some (.int (nI (10))), some (.int (nI (v))), some (.int (nI (i)))] [] σ g (ce_rv σ (fun z9 g1 => z9 = ce_o (kx_num T len lo hi [1] (v) (p)).1 ∧ kx_at g0 g1 a len (kx_num T len lo hi [1] (v) (p)).2)) ce_no := by
  intro g v p i hik hv hp9 hA
  have hcg : ∀ i, i < len → g (a + 22) i = nI (T i) := fun i hi => by rw [hA.2.2 _ (by omega)]; exact hch i hi
  refine ce_iload dX6_readNumber_31 rfl ?_
  refine ce_iload_n dX6_readNumber_33 rfl ?_
  refine ce_icmp_geN (tgt := 142) dX6_readNumber_34 (by decide) rfl rfl (by omega) (by omega) (fun c_34 => ?_) (fun c_34 => ?_)
  · omega
  · have hb : p < len → T p < 256 := hT p
    refine ce_aload_n dX6_readNumber_37 rfl ?_
    refine ce_getIv dX6_readNumber_38 fRX6_33 hX.2.2.2.2.2.1.1 hA.2.1 ?_
    refine ce_aload_n dX6_readNumber_41 rfl ?_
    refine ce_getIv dX6_readNumber_42 fRX6_25 hX.2.2.2.2.2.1.1 hA.1 ?_
    refine ce_icmp_geN (tgt := 76) dX6_readNumber_45 (by decide) rfl rfl (by omega) (by omega) (fun c_45 => ?_) (fun c_45 => ?_)
    · refine ce_ldc dX6_readNumber_76 kRX6_40 ?_
      refine ce_iret dX6_readNumber_78 rfl rfl (by decide) (by decide) ?_
      have e : kx_num T len lo hi [1] v p = (none, p) := kx_num_n (T := T) (len := len) (lo := lo) (hi := hi) (s := 1) (r := []) (p := p) (v := v) (by omega)
      exact ⟨_, rfl, rfl, by rw [e]; rfl, by rw [e]; exact hA⟩
    · refine ce_aload_n dX6_readNumber_48 rfl ?_
      refine ce_getR dX6_readNumber_49 fRX6_9 hX.2.2.2.2.2.1.1 hX.2.2.2.2.2.1.2.1.1 ?_
      refine ce_aload_n dX6_readNumber_52 rfl ?_
      refine ce_getIv dX6_readNumber_53 fRX6_33 hX.2.2.2.2.2.1.1 hA.2.1 ?_
      refine ce_caldv dX6_readNumber_56 (hX.2.2.2.2.2.1.2.2.1).1 rfl (hX.2.2.2.2.2.1.2.2.1).2 (by omega) (by decide) (hcg _ (by omega)) ?_
      refine ce_bipush (v := nI (48)) dX6_readNumber_57 (by decide) ?_
      refine ce_icmp_ltN (tgt := 76) dX6_readNumber_59 (by decide) rfl rfl (by omega) (by omega) (fun c_59 => ?_) (fun c_59 => ?_)
      · refine ce_ldc dX6_readNumber_76 kRX6_40 ?_
        refine ce_iret dX6_readNumber_78 rfl rfl (by decide) (by decide) ?_
        have e : kx_num T len lo hi [1] v p = (none, p) := kx_num_n (T := T) (len := len) (lo := lo) (hi := hi) (s := 1) (r := []) (p := p) (v := v) (by omega)
        exact ⟨_, rfl, rfl, by rw [e]; rfl, by rw [e]; exact hA⟩
      · refine ce_aload_n dX6_readNumber_62 rfl ?_
        refine ce_getR dX6_readNumber_63 fRX6_9 hX.2.2.2.2.2.1.1 hX.2.2.2.2.2.1.2.1.1 ?_
        refine ce_aload_n dX6_readNumber_66 rfl ?_
        refine ce_getIv dX6_readNumber_67 fRX6_33 hX.2.2.2.2.2.1.1 hA.2.1 ?_
        refine ce_caldv dX6_readNumber_70 (hX.2.2.2.2.2.1.2.2.1).1 rfl (hX.2.2.2.2.2.1.2.2.1).2 (by omega) (by decide) (hcg _ (by omega)) ?_
        refine ce_bipush (v := nI (57)) dX6_readNumber_71 (by decide) ?_
        refine ce_icmp_leN (tgt := 79) dX6_readNumber_73 (by decide) rfl rfl (by omega) (by omega) (fun c_73 => ?_) (fun c_73 => ?_)
        · have y0 : p < len ∧ 48 ≤ T p ∧ T p ≤ 57 := ⟨by omega, by omega, by omega⟩
          refine ce_iload dX6_readNumber_79 rfl ?_
          refine ce_bipush (v := nI (10)) dX6_readNumber_81 (by decide) ?_
          refine ce_idiv (z := nI (1)) dX6_readNumber_83 (nI_ne0 (by omega) (by omega)) (pk_div (by omega) (by omega) (by omega)) ?_
          refine ce_istore dX6_readNumber_84 (Nat.le_of_ble_eq_true rfl) rfl ?_
          refine ce_iload dX6_readNumber_86 rfl ?_
          refine ce_aload_n dX6_readNumber_88 rfl ?_
          refine ce_getR dX6_readNumber_89 fRX6_9 hX.2.2.2.2.2.1.1 hX.2.2.2.2.2.1.2.1.1 ?_
          refine ce_aload_n dX6_readNumber_92 rfl ?_
          refine ce_getIv dX6_readNumber_93 fRX6_33 hX.2.2.2.2.2.1.1 hA.2.1 ?_
          refine ce_caldv dX6_readNumber_96 (hX.2.2.2.2.2.1.2.2.1).1 rfl (hX.2.2.2.2.2.1.2.2.1).2 (by omega) (by decide) (hcg _ (by omega)) ?_
          refine ce_bipush (v := nI (48)) dX6_readNumber_97 (by decide) ?_
          refine ce_isub (z := nI (T (p) - (48))) dX6_readNumber_99 (pk_sub (by omega)) ?_
          refine ce_iload dX6_readNumber_100 rfl ?_
          refine ce_imul (z := nI ((T (p) - (48)) * (1))) dX6_readNumber_102 (pk_mul _ _) ?_
          refine ce_iadd (z := nI (v + (T p - 48) * 1)) dX6_readNumber_103 (nI_add _ _) ?_
          refine ce_istore dX6_readNumber_104 (Nat.le_of_ble_eq_true rfl) rfl ?_
          refine ce_iload dX6_readNumber_106 rfl ?_
          refine ce_iload_n dX6_readNumber_108 rfl ?_
          refine ce_icmp_gtN (tgt := 123) dX6_readNumber_109 (by decide) rfl rfl (by omega) (by omega) (fun c_109 => ?_) (fun c_109 => ?_)
          · refine ce_ldc dX6_readNumber_123 kRX6_40 ?_
            refine ce_iret dX6_readNumber_125 rfl rfl (by decide) (by decide) ?_
            have e : kx_num T len lo hi [1] v p = (none, p) := kx_num_x (T := T) (len := len) (lo := lo) (hi := hi) (s := 1) (r := []) (p := p) (v := v) y0 (by omega)
            exact ⟨_, rfl, rfl, by rw [e]; rfl, by rw [e]; exact hA⟩
          · refine ce_iload dX6_readNumber_112 rfl ?_
            refine ce_iload dX6_readNumber_114 rfl ?_
            refine ce_iadd (z := nI (v + (T p - 48) * 1 + 1)) dX6_readNumber_116 (nI_add _ _) ?_
            refine ce_iconst (v := nI (1)) dX6_readNumber_117 (by decide) ?_
            refine ce_isub (z := nI (v + (T p - 48) * 1 + 1 - (1))) dX6_readNumber_118 (pk_sub (by omega)) ?_
            refine ce_iload_n dX6_readNumber_119 rfl ?_
            refine ce_icmp_geN (tgt := 126) dX6_readNumber_120 (by decide) rfl rfl (by omega) (by omega) (fun c_120 => ?_) (fun c_120 => ?_)
            · have u0 := kx_num_y (T := T) (len := len) (lo := lo) (hi := hi) (s := 1) (r := []) (p := p) (v := v) y0 (by omega)
              refine ce_aload_n dX6_readNumber_126 rfl ?_
              refine ce_dup dX6_readNumber_127 rfl ?_
              refine ce_getIv dX6_readNumber_128 fRX6_33 hX.2.2.2.2.2.1.1 hA.2.1 ?_
              refine ce_iconst (v := nI (1)) dX6_readNumber_131 (by decide) ?_
              refine ce_iadd (z := nI (p + 1)) dX6_readNumber_132 (nI_add _ _) ?_
              refine ce_putI dX6_readNumber_133 pRX6_33 hX.2.2.2.2.2.1.1 rfl rfl ?_
              generalize hcg1 : ce_up g (a + 21) 2 (nI (p + 1)) = cg1
              have lcg1 : cg1 (a + 21) 1 = nI len := by rw [← hcg1, ce_up_j (by decide)]; exact hA.1
              have tcg1 : cg1 (a + 21) 2 = nI (p + 1) := by rw [← hcg1]; exact ce_up_at _ _ _ _
              have fcg1 : ∀ x, x ≠ a + 21 → cg1 x = g0 x := fun x hx => by rw [← hcg1]; exact (ce_up_ne _ _ _ hx).trans (hA.2.2 x hx)
              refine ce_iinc (v := nI (i + 1)) dX6_readNumber_136 rfl (ce_inc1 _) (Nat.le_of_ble_eq_true rfl) rfl ?_
              refine ce_goto (tgt := 31) dX6_readNumber_139 (by decide) ?_
              refine ce_mono (w_X6_num0 a b hX T len d lo hi h120 hlo hhi hd hch hT cg1 (v + (T p - 48) * 1) (p + 1) (i + 1) (by omega) (by omega) (by omega) ⟨lcg1, tcg1, fcg1⟩) (fun z σ1 g1 h => ?_)
              rw [u0]
              exact h
            · refine ce_ldc dX6_readNumber_123 kRX6_40 ?_
              refine ce_iret dX6_readNumber_125 rfl rfl (by decide) (by decide) ?_
              have e : kx_num T len lo hi [1] v p = (none, p) := kx_num_x (T := T) (len := len) (lo := lo) (hi := hi) (s := 1) (r := []) (p := p) (v := v) y0 (by omega)
              exact ⟨_, rfl, rfl, by rw [e]; rfl, by rw [e]; exact hA⟩
        · refine ce_ldc dX6_readNumber_76 kRX6_40 ?_
          refine ce_iret dX6_readNumber_78 rfl rfl (by decide) (by decide) ?_
          have e : kx_num T len lo hi [1] v p = (none, p) := kx_num_n (T := T) (len := len) (lo := lo) (hi := hi) (s := 1) (r := []) (p := p) (v := v) (by omega)
          exact ⟨_, rfl, rfl, by rw [e]; rfl, by rw [e]; exact hA⟩
set_option maxHeartbeats 2000000 in
set_option maxRecDepth 20000 in
theorem w_X6_num2 {σ : ce_S} {g0 : ce_D} (a : Nat) (b : Nat → Nat) (hX : ce_LX σ a b) (T : Nat → Nat) (len d lo hi : Nat) (h120 : len ≤ 120) (hlo : lo < 1000) (hhi : hi < 1000) (hd : d ≤ 3) (hch : ∀ i, i < len → g0 (a + 22) i = nI (T i)) (hT : ∀ i, i < len → T i < 256) : ∀ (g : ce_D) (v p i : Nat), i + 2 = d → v ≤ hi → p ≤ 1000 → kx_at g0 g a len p → ce_WP (ce_r 1) mX6_readNumber 0 0 31 [some (.ref (a + 21)), some (.int (nI (d))), some (.int (nI (lo))), some (.int (nI (hi))), some (.int (nI (100))), some (.int (nI (v))), some (.int (nI (i)))] [] σ g (ce_rv σ (fun z9 g1 => z9 = ce_o (kx_num T len lo hi [10, 1] (v) (p)).1 ∧ kx_at g0 g1 a len (kx_num T len lo hi [10, 1] (v) (p)).2)) ce_no := by
  intro g v p i hik hv hp9 hA
  have hcg : ∀ i, i < len → g (a + 22) i = nI (T i) := fun i hi => by rw [hA.2.2 _ (by omega)]; exact hch i hi
  refine ce_iload dX6_readNumber_31 rfl ?_
  refine ce_iload_n dX6_readNumber_33 rfl ?_
  refine ce_icmp_geN (tgt := 142) dX6_readNumber_34 (by decide) rfl rfl (by omega) (by omega) (fun c_34 => ?_) (fun c_34 => ?_)
  · omega
  · have hb : p < len → T p < 256 := hT p
    refine ce_aload_n dX6_readNumber_37 rfl ?_
    refine ce_getIv dX6_readNumber_38 fRX6_33 hX.2.2.2.2.2.1.1 hA.2.1 ?_
    refine ce_aload_n dX6_readNumber_41 rfl ?_
    refine ce_getIv dX6_readNumber_42 fRX6_25 hX.2.2.2.2.2.1.1 hA.1 ?_
    refine ce_icmp_geN (tgt := 76) dX6_readNumber_45 (by decide) rfl rfl (by omega) (by omega) (fun c_45 => ?_) (fun c_45 => ?_)
    · refine ce_ldc dX6_readNumber_76 kRX6_40 ?_
      refine ce_iret dX6_readNumber_78 rfl rfl (by decide) (by decide) ?_
      have e : kx_num T len lo hi [10, 1] v p = (none, p) := kx_num_n (T := T) (len := len) (lo := lo) (hi := hi) (s := 10) (r := [1]) (p := p) (v := v) (by omega)
      exact ⟨_, rfl, rfl, by rw [e]; rfl, by rw [e]; exact hA⟩
    · refine ce_aload_n dX6_readNumber_48 rfl ?_
      refine ce_getR dX6_readNumber_49 fRX6_9 hX.2.2.2.2.2.1.1 hX.2.2.2.2.2.1.2.1.1 ?_
      refine ce_aload_n dX6_readNumber_52 rfl ?_
      refine ce_getIv dX6_readNumber_53 fRX6_33 hX.2.2.2.2.2.1.1 hA.2.1 ?_
      refine ce_caldv dX6_readNumber_56 (hX.2.2.2.2.2.1.2.2.1).1 rfl (hX.2.2.2.2.2.1.2.2.1).2 (by omega) (by decide) (hcg _ (by omega)) ?_
      refine ce_bipush (v := nI (48)) dX6_readNumber_57 (by decide) ?_
      refine ce_icmp_ltN (tgt := 76) dX6_readNumber_59 (by decide) rfl rfl (by omega) (by omega) (fun c_59 => ?_) (fun c_59 => ?_)
      · refine ce_ldc dX6_readNumber_76 kRX6_40 ?_
        refine ce_iret dX6_readNumber_78 rfl rfl (by decide) (by decide) ?_
        have e : kx_num T len lo hi [10, 1] v p = (none, p) := kx_num_n (T := T) (len := len) (lo := lo) (hi := hi) (s := 10) (r := [1]) (p := p) (v := v) (by omega)
        exact ⟨_, rfl, rfl, by rw [e]; rfl, by rw [e]; exact hA⟩
      · refine ce_aload_n dX6_readNumber_62 rfl ?_
        refine ce_getR dX6_readNumber_63 fRX6_9 hX.2.2.2.2.2.1.1 hX.2.2.2.2.2.1.2.1.1 ?_
        refine ce_aload_n dX6_readNumber_66 rfl ?_
        refine ce_getIv dX6_readNumber_67 fRX6_33 hX.2.2.2.2.2.1.1 hA.2.1 ?_
        refine ce_caldv dX6_readNumber_70 (hX.2.2.2.2.2.1.2.2.1).1 rfl (hX.2.2.2.2.2.1.2.2.1).2 (by omega) (by decide) (hcg _ (by omega)) ?_
        refine ce_bipush (v := nI (57)) dX6_readNumber_71 (by decide) ?_
        refine ce_icmp_leN (tgt := 79) dX6_readNumber_73 (by decide) rfl rfl (by omega) (by omega) (fun c_73 => ?_) (fun c_73 => ?_)
        · have y0 : p < len ∧ 48 ≤ T p ∧ T p ≤ 57 := ⟨by omega, by omega, by omega⟩
          refine ce_iload dX6_readNumber_79 rfl ?_
          refine ce_bipush (v := nI (10)) dX6_readNumber_81 (by decide) ?_
          refine ce_idiv (z := nI (10)) dX6_readNumber_83 (nI_ne0 (by omega) (by omega)) (pk_div (by omega) (by omega) (by omega)) ?_
          refine ce_istore dX6_readNumber_84 (Nat.le_of_ble_eq_true rfl) rfl ?_
          refine ce_iload dX6_readNumber_86 rfl ?_
          refine ce_aload_n dX6_readNumber_88 rfl ?_
          refine ce_getR dX6_readNumber_89 fRX6_9 hX.2.2.2.2.2.1.1 hX.2.2.2.2.2.1.2.1.1 ?_
          refine ce_aload_n dX6_readNumber_92 rfl ?_
          refine ce_getIv dX6_readNumber_93 fRX6_33 hX.2.2.2.2.2.1.1 hA.2.1 ?_
          refine ce_caldv dX6_readNumber_96 (hX.2.2.2.2.2.1.2.2.1).1 rfl (hX.2.2.2.2.2.1.2.2.1).2 (by omega) (by decide) (hcg _ (by omega)) ?_
          refine ce_bipush (v := nI (48)) dX6_readNumber_97 (by decide) ?_
          refine ce_isub (z := nI (T (p) - (48))) dX6_readNumber_99 (pk_sub (by omega)) ?_
          refine ce_iload dX6_readNumber_100 rfl ?_
          refine ce_imul (z := nI ((T (p) - (48)) * (10))) dX6_readNumber_102 (pk_mul _ _) ?_
          refine ce_iadd (z := nI (v + (T p - 48) * 10)) dX6_readNumber_103 (nI_add _ _) ?_
          refine ce_istore dX6_readNumber_104 (Nat.le_of_ble_eq_true rfl) rfl ?_
          refine ce_iload dX6_readNumber_106 rfl ?_
          refine ce_iload_n dX6_readNumber_108 rfl ?_
          refine ce_icmp_gtN (tgt := 123) dX6_readNumber_109 (by decide) rfl rfl (by omega) (by omega) (fun c_109 => ?_) (fun c_109 => ?_)
          · refine ce_ldc dX6_readNumber_123 kRX6_40 ?_
            refine ce_iret dX6_readNumber_125 rfl rfl (by decide) (by decide) ?_
            have e : kx_num T len lo hi [10, 1] v p = (none, p) := kx_num_x (T := T) (len := len) (lo := lo) (hi := hi) (s := 10) (r := [1]) (p := p) (v := v) y0 (by omega)
            exact ⟨_, rfl, rfl, by rw [e]; rfl, by rw [e]; exact hA⟩
          · refine ce_iload dX6_readNumber_112 rfl ?_
            refine ce_iload dX6_readNumber_114 rfl ?_
            refine ce_iadd (z := nI (v + (T p - 48) * 10 + 10)) dX6_readNumber_116 (nI_add _ _) ?_
            refine ce_iconst (v := nI (1)) dX6_readNumber_117 (by decide) ?_
            refine ce_isub (z := nI (v + (T p - 48) * 10 + 10 - (1))) dX6_readNumber_118 (pk_sub (by omega)) ?_
            refine ce_iload_n dX6_readNumber_119 rfl ?_
            refine ce_icmp_geN (tgt := 126) dX6_readNumber_120 (by decide) rfl rfl (by omega) (by omega) (fun c_120 => ?_) (fun c_120 => ?_)
            · have u0 := kx_num_y (T := T) (len := len) (lo := lo) (hi := hi) (s := 10) (r := [1]) (p := p) (v := v) y0 (by omega)
              refine ce_aload_n dX6_readNumber_126 rfl ?_
              refine ce_dup dX6_readNumber_127 rfl ?_
              refine ce_getIv dX6_readNumber_128 fRX6_33 hX.2.2.2.2.2.1.1 hA.2.1 ?_
              refine ce_iconst (v := nI (1)) dX6_readNumber_131 (by decide) ?_
              refine ce_iadd (z := nI (p + 1)) dX6_readNumber_132 (nI_add _ _) ?_
              refine ce_putI dX6_readNumber_133 pRX6_33 hX.2.2.2.2.2.1.1 rfl rfl ?_
              generalize hcg1 : ce_up g (a + 21) 2 (nI (p + 1)) = cg1
              have lcg1 : cg1 (a + 21) 1 = nI len := by rw [← hcg1, ce_up_j (by decide)]; exact hA.1
              have tcg1 : cg1 (a + 21) 2 = nI (p + 1) := by rw [← hcg1]; exact ce_up_at _ _ _ _
              have fcg1 : ∀ x, x ≠ a + 21 → cg1 x = g0 x := fun x hx => by rw [← hcg1]; exact (ce_up_ne _ _ _ hx).trans (hA.2.2 x hx)
              refine ce_iinc (v := nI (i + 1)) dX6_readNumber_136 rfl (ce_inc1 _) (Nat.le_of_ble_eq_true rfl) rfl ?_
              refine ce_goto (tgt := 31) dX6_readNumber_139 (by decide) ?_
              refine ce_mono (w_X6_num1 a b hX T len d lo hi h120 hlo hhi hd hch hT cg1 (v + (T p - 48) * 10) (p + 1) (i + 1) (by omega) (by omega) (by omega) ⟨lcg1, tcg1, fcg1⟩) (fun z σ1 g1 h => ?_)
              rw [u0]
              exact h
            · refine ce_ldc dX6_readNumber_123 kRX6_40 ?_
              refine ce_iret dX6_readNumber_125 rfl rfl (by decide) (by decide) ?_
              have e : kx_num T len lo hi [10, 1] v p = (none, p) := kx_num_x (T := T) (len := len) (lo := lo) (hi := hi) (s := 10) (r := [1]) (p := p) (v := v) y0 (by omega)
              exact ⟨_, rfl, rfl, by rw [e]; rfl, by rw [e]; exact hA⟩
        · refine ce_ldc dX6_readNumber_76 kRX6_40 ?_
          refine ce_iret dX6_readNumber_78 rfl rfl (by decide) (by decide) ?_
          have e : kx_num T len lo hi [10, 1] v p = (none, p) := kx_num_n (T := T) (len := len) (lo := lo) (hi := hi) (s := 10) (r := [1]) (p := p) (v := v) (by omega)
          exact ⟨_, rfl, rfl, by rw [e]; rfl, by rw [e]; exact hA⟩
set_option maxHeartbeats 2000000 in
set_option maxRecDepth 20000 in
theorem w_X6_num3 {σ : ce_S} {g0 : ce_D} (a : Nat) (b : Nat → Nat) (hX : ce_LX σ a b) (T : Nat → Nat) (len d lo hi : Nat) (h120 : len ≤ 120) (hlo : lo < 1000) (hhi : hi < 1000) (hd : d ≤ 3) (hch : ∀ i, i < len → g0 (a + 22) i = nI (T i)) (hT : ∀ i, i < len → T i < 256) : ∀ (g : ce_D) (v p i : Nat), i + 3 = d → v ≤ hi → p ≤ 1000 → kx_at g0 g a len p → ce_WP (ce_r 1) mX6_readNumber 0 0 31 [some (.ref (a + 21)), some (.int (nI (d))), some (.int (nI (lo))), some (.int (nI (hi))), some (.int (nI (1000))), some (.int (nI (v))), some (.int (nI (i)))] [] σ g (ce_rv σ (fun z9 g1 => z9 = ce_o (kx_num T len lo hi [100, 10, 1] (v) (p)).1 ∧ kx_at g0 g1 a len (kx_num T len lo hi [100, 10, 1] (v) (p)).2)) ce_no := by
  intro g v p i hik hv hp9 hA
  have hcg : ∀ i, i < len → g (a + 22) i = nI (T i) := fun i hi => by rw [hA.2.2 _ (by omega)]; exact hch i hi
  refine ce_iload dX6_readNumber_31 rfl ?_
  refine ce_iload_n dX6_readNumber_33 rfl ?_
  refine ce_icmp_geN (tgt := 142) dX6_readNumber_34 (by decide) rfl rfl (by omega) (by omega) (fun c_34 => ?_) (fun c_34 => ?_)
  · omega
  · have hb : p < len → T p < 256 := hT p
    refine ce_aload_n dX6_readNumber_37 rfl ?_
    refine ce_getIv dX6_readNumber_38 fRX6_33 hX.2.2.2.2.2.1.1 hA.2.1 ?_
    refine ce_aload_n dX6_readNumber_41 rfl ?_
    refine ce_getIv dX6_readNumber_42 fRX6_25 hX.2.2.2.2.2.1.1 hA.1 ?_
    refine ce_icmp_geN (tgt := 76) dX6_readNumber_45 (by decide) rfl rfl (by omega) (by omega) (fun c_45 => ?_) (fun c_45 => ?_)
    · refine ce_ldc dX6_readNumber_76 kRX6_40 ?_
      refine ce_iret dX6_readNumber_78 rfl rfl (by decide) (by decide) ?_
      have e : kx_num T len lo hi [100, 10, 1] v p = (none, p) := kx_num_n (T := T) (len := len) (lo := lo) (hi := hi) (s := 100) (r := [10, 1]) (p := p) (v := v) (by omega)
      exact ⟨_, rfl, rfl, by rw [e]; rfl, by rw [e]; exact hA⟩
    · refine ce_aload_n dX6_readNumber_48 rfl ?_
      refine ce_getR dX6_readNumber_49 fRX6_9 hX.2.2.2.2.2.1.1 hX.2.2.2.2.2.1.2.1.1 ?_
      refine ce_aload_n dX6_readNumber_52 rfl ?_
      refine ce_getIv dX6_readNumber_53 fRX6_33 hX.2.2.2.2.2.1.1 hA.2.1 ?_
      refine ce_caldv dX6_readNumber_56 (hX.2.2.2.2.2.1.2.2.1).1 rfl (hX.2.2.2.2.2.1.2.2.1).2 (by omega) (by decide) (hcg _ (by omega)) ?_
      refine ce_bipush (v := nI (48)) dX6_readNumber_57 (by decide) ?_
      refine ce_icmp_ltN (tgt := 76) dX6_readNumber_59 (by decide) rfl rfl (by omega) (by omega) (fun c_59 => ?_) (fun c_59 => ?_)
      · refine ce_ldc dX6_readNumber_76 kRX6_40 ?_
        refine ce_iret dX6_readNumber_78 rfl rfl (by decide) (by decide) ?_
        have e : kx_num T len lo hi [100, 10, 1] v p = (none, p) := kx_num_n (T := T) (len := len) (lo := lo) (hi := hi) (s := 100) (r := [10, 1]) (p := p) (v := v) (by omega)
        exact ⟨_, rfl, rfl, by rw [e]; rfl, by rw [e]; exact hA⟩
      · refine ce_aload_n dX6_readNumber_62 rfl ?_
        refine ce_getR dX6_readNumber_63 fRX6_9 hX.2.2.2.2.2.1.1 hX.2.2.2.2.2.1.2.1.1 ?_
        refine ce_aload_n dX6_readNumber_66 rfl ?_
        refine ce_getIv dX6_readNumber_67 fRX6_33 hX.2.2.2.2.2.1.1 hA.2.1 ?_
        refine ce_caldv dX6_readNumber_70 (hX.2.2.2.2.2.1.2.2.1).1 rfl (hX.2.2.2.2.2.1.2.2.1).2 (by omega) (by decide) (hcg _ (by omega)) ?_
        refine ce_bipush (v := nI (57)) dX6_readNumber_71 (by decide) ?_
        refine ce_icmp_leN (tgt := 79) dX6_readNumber_73 (by decide) rfl rfl (by omega) (by omega) (fun c_73 => ?_) (fun c_73 => ?_)
        · have y0 : p < len ∧ 48 ≤ T p ∧ T p ≤ 57 := ⟨by omega, by omega, by omega⟩
          refine ce_iload dX6_readNumber_79 rfl ?_
          refine ce_bipush (v := nI (10)) dX6_readNumber_81 (by decide) ?_
          refine ce_idiv (z := nI (100)) dX6_readNumber_83 (nI_ne0 (by omega) (by omega)) (pk_div (by omega) (by omega) (by omega)) ?_
          refine ce_istore dX6_readNumber_84 (Nat.le_of_ble_eq_true rfl) rfl ?_
          refine ce_iload dX6_readNumber_86 rfl ?_
          refine ce_aload_n dX6_readNumber_88 rfl ?_
          refine ce_getR dX6_readNumber_89 fRX6_9 hX.2.2.2.2.2.1.1 hX.2.2.2.2.2.1.2.1.1 ?_
          refine ce_aload_n dX6_readNumber_92 rfl ?_
          refine ce_getIv dX6_readNumber_93 fRX6_33 hX.2.2.2.2.2.1.1 hA.2.1 ?_
          refine ce_caldv dX6_readNumber_96 (hX.2.2.2.2.2.1.2.2.1).1 rfl (hX.2.2.2.2.2.1.2.2.1).2 (by omega) (by decide) (hcg _ (by omega)) ?_
          refine ce_bipush (v := nI (48)) dX6_readNumber_97 (by decide) ?_
          refine ce_isub (z := nI (T (p) - (48))) dX6_readNumber_99 (pk_sub (by omega)) ?_
          refine ce_iload dX6_readNumber_100 rfl ?_
          refine ce_imul (z := nI ((T (p) - (48)) * (100))) dX6_readNumber_102 (pk_mul _ _) ?_
          refine ce_iadd (z := nI (v + (T p - 48) * 100)) dX6_readNumber_103 (nI_add _ _) ?_
          refine ce_istore dX6_readNumber_104 (Nat.le_of_ble_eq_true rfl) rfl ?_
          refine ce_iload dX6_readNumber_106 rfl ?_
          refine ce_iload_n dX6_readNumber_108 rfl ?_
          refine ce_icmp_gtN (tgt := 123) dX6_readNumber_109 (by decide) rfl rfl (by omega) (by omega) (fun c_109 => ?_) (fun c_109 => ?_)
          · refine ce_ldc dX6_readNumber_123 kRX6_40 ?_
            refine ce_iret dX6_readNumber_125 rfl rfl (by decide) (by decide) ?_
            have e : kx_num T len lo hi [100, 10, 1] v p = (none, p) := kx_num_x (T := T) (len := len) (lo := lo) (hi := hi) (s := 100) (r := [10, 1]) (p := p) (v := v) y0 (by omega)
            exact ⟨_, rfl, rfl, by rw [e]; rfl, by rw [e]; exact hA⟩
          · refine ce_iload dX6_readNumber_112 rfl ?_
            refine ce_iload dX6_readNumber_114 rfl ?_
            refine ce_iadd (z := nI (v + (T p - 48) * 100 + 100)) dX6_readNumber_116 (nI_add _ _) ?_
            refine ce_iconst (v := nI (1)) dX6_readNumber_117 (by decide) ?_
            refine ce_isub (z := nI (v + (T p - 48) * 100 + 100 - (1))) dX6_readNumber_118 (pk_sub (by omega)) ?_
            refine ce_iload_n dX6_readNumber_119 rfl ?_
            refine ce_icmp_geN (tgt := 126) dX6_readNumber_120 (by decide) rfl rfl (by omega) (by omega) (fun c_120 => ?_) (fun c_120 => ?_)
            · have u0 := kx_num_y (T := T) (len := len) (lo := lo) (hi := hi) (s := 100) (r := [10, 1]) (p := p) (v := v) y0 (by omega)
              refine ce_aload_n dX6_readNumber_126 rfl ?_
              refine ce_dup dX6_readNumber_127 rfl ?_
              refine ce_getIv dX6_readNumber_128 fRX6_33 hX.2.2.2.2.2.1.1 hA.2.1 ?_
              refine ce_iconst (v := nI (1)) dX6_readNumber_131 (by decide) ?_
              refine ce_iadd (z := nI (p + 1)) dX6_readNumber_132 (nI_add _ _) ?_
              refine ce_putI dX6_readNumber_133 pRX6_33 hX.2.2.2.2.2.1.1 rfl rfl ?_
              generalize hcg1 : ce_up g (a + 21) 2 (nI (p + 1)) = cg1
              have lcg1 : cg1 (a + 21) 1 = nI len := by rw [← hcg1, ce_up_j (by decide)]; exact hA.1
              have tcg1 : cg1 (a + 21) 2 = nI (p + 1) := by rw [← hcg1]; exact ce_up_at _ _ _ _
              have fcg1 : ∀ x, x ≠ a + 21 → cg1 x = g0 x := fun x hx => by rw [← hcg1]; exact (ce_up_ne _ _ _ hx).trans (hA.2.2 x hx)
              refine ce_iinc (v := nI (i + 1)) dX6_readNumber_136 rfl (ce_inc1 _) (Nat.le_of_ble_eq_true rfl) rfl ?_
              refine ce_goto (tgt := 31) dX6_readNumber_139 (by decide) ?_
              refine ce_mono (w_X6_num2 a b hX T len d lo hi h120 hlo hhi hd hch hT cg1 (v + (T p - 48) * 100) (p + 1) (i + 1) (by omega) (by omega) (by omega) ⟨lcg1, tcg1, fcg1⟩) (fun z σ1 g1 h => ?_)
              rw [u0]
              exact h
            · refine ce_ldc dX6_readNumber_123 kRX6_40 ?_
              refine ce_iret dX6_readNumber_125 rfl rfl (by decide) (by decide) ?_
              have e : kx_num T len lo hi [100, 10, 1] v p = (none, p) := kx_num_x (T := T) (len := len) (lo := lo) (hi := hi) (s := 100) (r := [10, 1]) (p := p) (v := v) y0 (by omega)
              exact ⟨_, rfl, rfl, by rw [e]; rfl, by rw [e]; exact hA⟩
        · refine ce_ldc dX6_readNumber_76 kRX6_40 ?_
          refine ce_iret dX6_readNumber_78 rfl rfl (by decide) (by decide) ?_
          have e : kx_num T len lo hi [100, 10, 1] v p = (none, p) := kx_num_n (T := T) (len := len) (lo := lo) (hi := hi) (s := 100) (r := [10, 1]) (p := p) (v := v) (by omega)
          exact ⟨_, rfl, rfl, by rw [e]; rfl, by rw [e]; exact hA⟩
set_option maxHeartbeats 2000000 in
set_option maxRecDepth 20000 in
theorem m_X6_readNumber1 {σ : ce_S} {g : ce_D} (a : Nat) (b : Nat → Nat) (hX : ce_LX σ a b) (T : Nat → Nat) (len p lo hi : Nat) (h120 : len ≤ 120) (hp9 : p ≤ 1000) (hlo : lo < 1000) (hhi : hi < 1000) (hl : g (a + 21) 1 = nI len) (hp : g (a + 21) 2 = nI p) (hch : ∀ i, i < len → g (a + 22) i = nI (T i)) (hT : ∀ i, i < len → T i < 256) : ce_CT (ce_r 1) mX6_readNumber [.ref (a + 21), .int (nI (1)), .int (nI (lo)), .int (nI (hi))] σ g (ce_rv σ (fun z9 g1 => z9 = ce_o (kx_num T len lo hi [1] 0 p).1 ∧ kx_at g g1 a len (kx_num T len lo hi [1] 0 p).2)) ce_no := by
  refine ce_enter (by decide) rfl (Nat.le_of_ble_eq_true rfl) (L := [some (.ref (a + 21)), some (.int (nI (1))), some (.int (nI (lo))), some (.int (nI (hi))), none, none, none]) rfl ?_
  refine ce_iconst (v := nI (1)) dX6_readNumber_0 (by decide) ?_
  refine ce_istore dX6_readNumber_1 (Nat.le_of_ble_eq_true rfl) rfl ?_
  refine ce_iconst (v := nI (0)) dX6_readNumber_3 (by decide) ?_
  refine ce_istore dX6_readNumber_4 (Nat.le_of_ble_eq_true rfl) rfl ?_
  refine ce_iload dX6_readNumber_6 rfl ?_
  refine ce_iload_n dX6_readNumber_8 rfl ?_
  refine ce_icmp_geN (tgt := 25) dX6_readNumber_9 (by decide) rfl rfl (by omega) (by omega) (fun c_9 => ?_) (fun c_9 => ?_)
  · omega
  · refine ce_iload dX6_readNumber_12 rfl ?_
    refine ce_bipush (v := nI (10)) dX6_readNumber_14 (by decide) ?_
    refine ce_imul (z := nI (10)) dX6_readNumber_16 (pk_mul _ _) ?_
    refine ce_istore dX6_readNumber_17 (Nat.le_of_ble_eq_true rfl) rfl ?_
    refine ce_iinc (v := nI (1)) dX6_readNumber_19 rfl (ce_inc1 _) (Nat.le_of_ble_eq_true rfl) rfl ?_
    refine ce_goto (tgt := 6) dX6_readNumber_22 (by decide) ?_
    refine ce_iload dX6_readNumber_6 rfl ?_
    refine ce_iload_n dX6_readNumber_8 rfl ?_
    refine ce_icmp_geN (tgt := 25) dX6_readNumber_9 (by decide) rfl rfl (by omega) (by omega) (fun c_9 => ?_) (fun c_9 => ?_)
    · refine ce_iconst (v := nI (0)) dX6_readNumber_25 (by decide) ?_
      refine ce_istore dX6_readNumber_26 (Nat.le_of_ble_eq_true rfl) rfl ?_
      refine ce_iconst (v := nI (0)) dX6_readNumber_28 (by decide) ?_
      refine ce_istore dX6_readNumber_29 (Nat.le_of_ble_eq_true rfl) rfl ?_
      exact w_X6_num1 a b hX T len 1 lo hi h120 hlo hhi (by decide) hch hT g 0 p 0 (by decide) (by omega) hp9 ⟨hl, hp, fun _ _ => rfl⟩
    · omega
set_option maxHeartbeats 2000000 in
set_option maxRecDepth 20000 in
theorem m_X6_readNumber2 {σ : ce_S} {g : ce_D} (a : Nat) (b : Nat → Nat) (hX : ce_LX σ a b) (T : Nat → Nat) (len p lo hi : Nat) (h120 : len ≤ 120) (hp9 : p ≤ 1000) (hlo : lo < 1000) (hhi : hi < 1000) (hl : g (a + 21) 1 = nI len) (hp : g (a + 21) 2 = nI p) (hch : ∀ i, i < len → g (a + 22) i = nI (T i)) (hT : ∀ i, i < len → T i < 256) : ce_CT (ce_r 1) mX6_readNumber [.ref (a + 21), .int (nI (2)), .int (nI (lo)), .int (nI (hi))] σ g (ce_rv σ (fun z9 g1 => z9 = ce_o (kx_num T len lo hi [10, 1] 0 p).1 ∧ kx_at g g1 a len (kx_num T len lo hi [10, 1] 0 p).2)) ce_no := by
  refine ce_enter (by decide) rfl (Nat.le_of_ble_eq_true rfl) (L := [some (.ref (a + 21)), some (.int (nI (2))), some (.int (nI (lo))), some (.int (nI (hi))), none, none, none]) rfl ?_
  refine ce_iconst (v := nI (1)) dX6_readNumber_0 (by decide) ?_
  refine ce_istore dX6_readNumber_1 (Nat.le_of_ble_eq_true rfl) rfl ?_
  refine ce_iconst (v := nI (0)) dX6_readNumber_3 (by decide) ?_
  refine ce_istore dX6_readNumber_4 (Nat.le_of_ble_eq_true rfl) rfl ?_
  refine ce_iload dX6_readNumber_6 rfl ?_
  refine ce_iload_n dX6_readNumber_8 rfl ?_
  refine ce_icmp_geN (tgt := 25) dX6_readNumber_9 (by decide) rfl rfl (by omega) (by omega) (fun c_9 => ?_) (fun c_9 => ?_)
  · omega
  · refine ce_iload dX6_readNumber_12 rfl ?_
    refine ce_bipush (v := nI (10)) dX6_readNumber_14 (by decide) ?_
    refine ce_imul (z := nI (10)) dX6_readNumber_16 (pk_mul _ _) ?_
    refine ce_istore dX6_readNumber_17 (Nat.le_of_ble_eq_true rfl) rfl ?_
    refine ce_iinc (v := nI (1)) dX6_readNumber_19 rfl (ce_inc1 _) (Nat.le_of_ble_eq_true rfl) rfl ?_
    refine ce_goto (tgt := 6) dX6_readNumber_22 (by decide) ?_
    refine ce_iload dX6_readNumber_6 rfl ?_
    refine ce_iload_n dX6_readNumber_8 rfl ?_
    refine ce_icmp_geN (tgt := 25) dX6_readNumber_9 (by decide) rfl rfl (by omega) (by omega) (fun c_9 => ?_) (fun c_9 => ?_)
    · omega
    · refine ce_iload dX6_readNumber_12 rfl ?_
      refine ce_bipush (v := nI (10)) dX6_readNumber_14 (by decide) ?_
      refine ce_imul (z := nI (100)) dX6_readNumber_16 (pk_mul _ _) ?_
      refine ce_istore dX6_readNumber_17 (Nat.le_of_ble_eq_true rfl) rfl ?_
      refine ce_iinc (v := nI (2)) dX6_readNumber_19 rfl (ce_inc1 _) (Nat.le_of_ble_eq_true rfl) rfl ?_
      refine ce_goto (tgt := 6) dX6_readNumber_22 (by decide) ?_
      refine ce_iload dX6_readNumber_6 rfl ?_
      refine ce_iload_n dX6_readNumber_8 rfl ?_
      refine ce_icmp_geN (tgt := 25) dX6_readNumber_9 (by decide) rfl rfl (by omega) (by omega) (fun c_9 => ?_) (fun c_9 => ?_)
      · refine ce_iconst (v := nI (0)) dX6_readNumber_25 (by decide) ?_
        refine ce_istore dX6_readNumber_26 (Nat.le_of_ble_eq_true rfl) rfl ?_
        refine ce_iconst (v := nI (0)) dX6_readNumber_28 (by decide) ?_
        refine ce_istore dX6_readNumber_29 (Nat.le_of_ble_eq_true rfl) rfl ?_
        exact w_X6_num2 a b hX T len 2 lo hi h120 hlo hhi (by decide) hch hT g 0 p 0 (by decide) (by omega) hp9 ⟨hl, hp, fun _ _ => rfl⟩
      · omega
set_option maxHeartbeats 2000000 in
set_option maxRecDepth 20000 in
theorem m_X6_readNumber3 {σ : ce_S} {g : ce_D} (a : Nat) (b : Nat → Nat) (hX : ce_LX σ a b) (T : Nat → Nat) (len p lo hi : Nat) (h120 : len ≤ 120) (hp9 : p ≤ 1000) (hlo : lo < 1000) (hhi : hi < 1000) (hl : g (a + 21) 1 = nI len) (hp : g (a + 21) 2 = nI p) (hch : ∀ i, i < len → g (a + 22) i = nI (T i)) (hT : ∀ i, i < len → T i < 256) : ce_CT (ce_r 1) mX6_readNumber [.ref (a + 21), .int (nI (3)), .int (nI (lo)), .int (nI (hi))] σ g (ce_rv σ (fun z9 g1 => z9 = ce_o (kx_num T len lo hi [100, 10, 1] 0 p).1 ∧ kx_at g g1 a len (kx_num T len lo hi [100, 10, 1] 0 p).2)) ce_no := by
  refine ce_enter (by decide) rfl (Nat.le_of_ble_eq_true rfl) (L := [some (.ref (a + 21)), some (.int (nI (3))), some (.int (nI (lo))), some (.int (nI (hi))), none, none, none]) rfl ?_
  refine ce_iconst (v := nI (1)) dX6_readNumber_0 (by decide) ?_
  refine ce_istore dX6_readNumber_1 (Nat.le_of_ble_eq_true rfl) rfl ?_
  refine ce_iconst (v := nI (0)) dX6_readNumber_3 (by decide) ?_
  refine ce_istore dX6_readNumber_4 (Nat.le_of_ble_eq_true rfl) rfl ?_
  refine ce_iload dX6_readNumber_6 rfl ?_
  refine ce_iload_n dX6_readNumber_8 rfl ?_
  refine ce_icmp_geN (tgt := 25) dX6_readNumber_9 (by decide) rfl rfl (by omega) (by omega) (fun c_9 => ?_) (fun c_9 => ?_)
  · omega
  · refine ce_iload dX6_readNumber_12 rfl ?_
    refine ce_bipush (v := nI (10)) dX6_readNumber_14 (by decide) ?_
    refine ce_imul (z := nI (10)) dX6_readNumber_16 (pk_mul _ _) ?_
    refine ce_istore dX6_readNumber_17 (Nat.le_of_ble_eq_true rfl) rfl ?_
    refine ce_iinc (v := nI (1)) dX6_readNumber_19 rfl (ce_inc1 _) (Nat.le_of_ble_eq_true rfl) rfl ?_
    refine ce_goto (tgt := 6) dX6_readNumber_22 (by decide) ?_
    refine ce_iload dX6_readNumber_6 rfl ?_
    refine ce_iload_n dX6_readNumber_8 rfl ?_
    refine ce_icmp_geN (tgt := 25) dX6_readNumber_9 (by decide) rfl rfl (by omega) (by omega) (fun c_9 => ?_) (fun c_9 => ?_)
    · omega
    · refine ce_iload dX6_readNumber_12 rfl ?_
      refine ce_bipush (v := nI (10)) dX6_readNumber_14 (by decide) ?_
      refine ce_imul (z := nI (100)) dX6_readNumber_16 (pk_mul _ _) ?_
      refine ce_istore dX6_readNumber_17 (Nat.le_of_ble_eq_true rfl) rfl ?_
      refine ce_iinc (v := nI (2)) dX6_readNumber_19 rfl (ce_inc1 _) (Nat.le_of_ble_eq_true rfl) rfl ?_
      refine ce_goto (tgt := 6) dX6_readNumber_22 (by decide) ?_
      refine ce_iload dX6_readNumber_6 rfl ?_
      refine ce_iload_n dX6_readNumber_8 rfl ?_
      refine ce_icmp_geN (tgt := 25) dX6_readNumber_9 (by decide) rfl rfl (by omega) (by omega) (fun c_9 => ?_) (fun c_9 => ?_)
      · omega
      · refine ce_iload dX6_readNumber_12 rfl ?_
        refine ce_bipush (v := nI (10)) dX6_readNumber_14 (by decide) ?_
        refine ce_imul (z := nI (1000)) dX6_readNumber_16 (pk_mul _ _) ?_
        refine ce_istore dX6_readNumber_17 (Nat.le_of_ble_eq_true rfl) rfl ?_
        refine ce_iinc (v := nI (3)) dX6_readNumber_19 rfl (ce_inc1 _) (Nat.le_of_ble_eq_true rfl) rfl ?_
        refine ce_goto (tgt := 6) dX6_readNumber_22 (by decide) ?_
        refine ce_iload dX6_readNumber_6 rfl ?_
        refine ce_iload_n dX6_readNumber_8 rfl ?_
        refine ce_icmp_geN (tgt := 25) dX6_readNumber_9 (by decide) rfl rfl (by omega) (by omega) (fun c_9 => ?_) (fun c_9 => ?_)
        · refine ce_iconst (v := nI (0)) dX6_readNumber_25 (by decide) ?_
          refine ce_istore dX6_readNumber_26 (Nat.le_of_ble_eq_true rfl) rfl ?_
          refine ce_iconst (v := nI (0)) dX6_readNumber_28 (by decide) ?_
          refine ce_istore dX6_readNumber_29 (Nat.le_of_ble_eq_true rfl) rfl ?_
          exact w_X6_num3 a b hX T len 3 lo hi h120 hlo hhi (by decide) hch hT g 0 p 0 (by decide) (by omega) hp9 ⟨hl, hp, fun _ _ => rfl⟩
        · omega
