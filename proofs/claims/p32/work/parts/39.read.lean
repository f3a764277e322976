/-- the reader stands at p, told holds K; nothing else changed -/
def kx_rt (g g1 : ce_D) (a len p : Nat) (K : ce_V) : Prop := g1 (a + 21) 1 = nI len ∧ g1 (a + 21) 2 = nI p ∧ ce_rC g1 (a + 23) K (fun _ => 0) ∧ ∀ x, x ≠ a + 21 → (x < a + 23 ∨ a + 43 ≤ x) → g1 x = g x
theorem kx_rt_ch {g g1 : ce_D} {a len p : Nat} {K : ce_V} {T : Nat → Nat} (h : kx_rt g g1 a len p K) (hc : ∀ i, i < len → g (a + 22) i = nI (T i)) : ∀ i, i < len → g1 (a + 22) i = nI (T i) := fun i hi => by rw [h.2.2.2 _ (by omega) (by omega)]; exact hc i hi
theorem kx_rt_put {g g1 g2 : ce_D} {a len p : Nat} {K : ce_V} (h : kx_rt g g1 a len p K) (q : Nat) (e : ce_up g1 (a + 21) 2 (nI q) = g2) : kx_rt g g2 a len q K := by
  subst e
  refine ⟨by rw [ce_up_j (by decide)]; exact h.1, ce_up_at _ _ _ _, h.2.2.1.kp (fun i hi => ce_up_ne _ _ _ (by omega)), fun x h1 h2 => ?_⟩
  rw [ce_up_ne _ _ _ h1]; exact h.2.2.2 x h1 h2
theorem kx_rt_num {g g1 g2 : ce_D} {a len p q : Nat} {K : ce_V} (h : kx_rt g g1 a len p K) (e : kx_at g1 g2 a len q) : kx_rt g g2 a len q K := ⟨e.1, e.2.1, h.2.2.1.kp (fun i hi => e.2.2 _ (by omega)), fun x h1 h2 => (e.2.2 x h1).trans (h.2.2.2 x h1 h2)⟩
theorem kx_rt_cl {g g1 g2 : ce_D} {a len p : Nat} {K K' : ce_V} (h : kx_rt g g1 a len p K) (hc : ce_rC g2 (a + 23) K' (fun _ => 0)) (hf : ce_fr (a + 23) (a + 23 + 20) g1 g2) : kx_rt g g2 a len p K' := ⟨by rw [hf _ (by omega)]; exact h.1, by rw [hf _ (by omega)]; exact h.2.1, hc, fun x h1 h2 => (hf x (by omega)).trans (h.2.2.2 x h1 h2)⟩
def kx_pm (T : Nat → Nat) (len : Nat) (K : ce_V) (p : Nat) : Bool × ce_V × Nat := if K 0 0 = 6 then (false, K, p) else match kx_num T len 0 999 [100, 10, 1] 0 (p + 1) with
  | (none, q) => (false, K, q)
  | (some n, q) => (true, kv_enr K n, q)
def kx_pw (T : Nat → Nat) (len : Nat) (K : ce_V) (p : Nat) : Bool × ce_V × Nat := if K 0 1 = 6 then (false, K, p) else match kx_num T len 1 99 [10, 1] 0 (p + 1) with
  | (none, q) => (false, K, q)
  | (some x, q) => match kx_num T len 0 60 [10, 1] 0 q with
    | (none, r) => (false, K, r)
    | (some n, r) => (true, kv_off K x n, r)
def kx_pb (T : Nat → Nat) (len : Nat) (K : ce_V) (p : Nat) : Bool × ce_V × Nat := if K 0 2 = 8 then (false, K, p) else match kx_num T len 1 24 [10, 1] 0 (p + 1) with
  | (none, q) => (false, K, q)
  | (some n, q) => (true, kv_inst K n, q)
def kx_po (T : Nat → Nat) (len : Nat) (K : ce_V) (p : Nat) : Bool × ce_V × Nat := if K 0 0 = 0 ∨ K 0 1 = 0 then (false, K, p) else match kx_num T len 0 (K 0 0 - 1) [1] 0 (p + 1) with
  | (none, q) => (false, K, q)
  | (some m, q) => match kx_num T len 0 (K 0 1 - 1) [1] 0 q with
    | (none, r) => (false, K, r)
    | (some w, r) => match kx_num T len 0 60 [10, 1] 0 r with
      | (none, u) => (false, K, u)
      | (some n, u) => (true, kv_ord K m w n, u)
def kx_part (T : Nat → Nat) (len : Nat) (K : ce_V) (p : Nat) : Bool × ce_V × Nat := if T p = 109 then kx_pm T len K p else if T p = 119 then kx_pw T len K p else if T p = 98 then kx_pb T len K p else if T p = 111 then kx_po T len K p else (false, K, p)
/-- what a part leaves: a club, and the reader further on -/
theorem kx_pm_ok {T : Nat → Nat} {len p : Nat} {K : ce_V} (hk : kv_cl K) (hp : p < len) : kv_cl (kx_pm T len K p).2.1 ∧ p ≤ (kx_pm T len K p).2.2 ∧ (kx_pm T len K p).2.2 ≤ len ∧ ((kx_pm T len K p).1 = true → p < (kx_pm T len K p).2.2) := by
  have hM := hk.me
  unfold kx_pm
  split
  · dsimp only
    exact ⟨hk, Nat.le_refl _, by omega, fun h => by cases h⟩
  · split
    · rename_i q h
      have := kx_num_q h
      dsimp only
      exact ⟨hk, by omega, this.2 (by omega), fun h => by cases h⟩
    · rename_i n q h
      have := kx_num_le3 h
      dsimp only
      exact ⟨cl_enr hk (by omega) (by omega), by omega, by omega, fun _ => by omega⟩
theorem kx_pw_ok {T : Nat → Nat} {len p : Nat} {K : ce_V} (hk : kv_cl K) (hp : p < len) : kv_cl (kx_pw T len K p).2.1 ∧ p ≤ (kx_pw T len K p).2.2 ∧ (kx_pw T len K p).2.2 ≤ len ∧ ((kx_pw T len K p).1 = true → p < (kx_pw T len K p).2.2) := by
  have hM := hk.wi
  unfold kx_pw
  split
  · dsimp only
    exact ⟨hk, Nat.le_refl _, by omega, fun h => by cases h⟩
  · split
    · rename_i q h
      have := kx_num_q h
      dsimp only
      exact ⟨hk, by omega, this.2 (by omega), fun h => by cases h⟩
    · rename_i n q h
      have h1 := kx_num_le2 h
      split
      · rename_i r h2
        have := kx_num_q h2
        dsimp only
        exact ⟨hk, by omega, this.2 (by omega), fun h => by cases h⟩
      · rename_i k r h2
        have := kx_num_le2 h2
        dsimp only
        exact ⟨cl_off hk (by omega) (by omega) (by omega), by omega, by omega, fun _ => by omega⟩
theorem kx_pb_ok {T : Nat → Nat} {len p : Nat} {K : ce_V} (hk : kv_cl K) (hp : p < len) : kv_cl (kx_pb T len K p).2.1 ∧ p ≤ (kx_pb T len K p).2.2 ∧ (kx_pb T len K p).2.2 ≤ len ∧ ((kx_pb T len K p).1 = true → p < (kx_pb T len K p).2.2) := by
  have hM := hk.i7
  unfold kx_pb
  split
  · dsimp only
    exact ⟨hk, Nat.le_refl _, by omega, fun h => by cases h⟩
  · split
    · rename_i q h
      have := kx_num_q h
      dsimp only
      exact ⟨hk, by omega, this.2 (by omega), fun h => by cases h⟩
    · rename_i n q h
      have := kx_num_le2 h
      dsimp only
      exact ⟨cl_inst hk (by omega) (by omega), by omega, by omega, fun _ => by omega⟩
theorem kx_po_ok {T : Nat → Nat} {len p : Nat} {K : ce_V} (hk : kv_cl K) (hp : p < len) : kv_cl (kx_po T len K p).2.1 ∧ p ≤ (kx_po T len K p).2.2 ∧ (kx_po T len K p).2.2 ≤ len ∧ ((kx_po T len K p).1 = true → p < (kx_po T len K p).2.2) := by
  unfold kx_po
  split
  · dsimp only
    exact ⟨hk, Nat.le_refl _, by omega, fun h => by cases h⟩
  · split
    · rename_i q h
      have := kx_num_q h
      dsimp only
      exact ⟨hk, by omega, this.2 (by omega), fun h => by cases h⟩
    · rename_i m q h
      have h1 := kx_num_le1 h
      split
      · rename_i r h2
        have := kx_num_q h2
        dsimp only
        exact ⟨hk, by omega, this.2 (by omega), fun h => by cases h⟩
      · rename_i w r h2
        have h3 := kx_num_le1 h2
        split
        · rename_i u h4
          have := kx_num_q h4
          dsimp only
          exact ⟨hk, by omega, this.2 (by omega), fun h => by cases h⟩
        · rename_i n u h4
          have := kx_num_le2 h4
          dsimp only
          exact ⟨cl_ord hk (by omega) (by omega) (by omega), by omega, by omega, fun _ => by omega⟩
theorem kx_part_ok {T : Nat → Nat} {len p : Nat} {K : ce_V} (hk : kv_cl K) (hp : p < len) : kv_cl (kx_part T len K p).2.1 ∧ p ≤ (kx_part T len K p).2.2 ∧ (kx_part T len K p).2.2 ≤ len ∧ ((kx_part T len K p).1 = true → p < (kx_part T len K p).2.2) := by
  unfold kx_part
  split
  · exact kx_pm_ok hk hp
  · split
    · exact kx_pw_ok hk hp
    · split
      · exact kx_pb_ok hk hp
      · split
        · exact kx_po_ok hk hp
        · dsimp only
          exact ⟨hk, Nat.le_refl _, by omega, fun h => by cases h⟩
def kx_loop (T : Nat → Nat) (len : Nat) : Nat → ce_V → Nat → Option Nat × ce_V
  | 0, K, _ => (none, K)
  | t + 1, K, p => if p < len then (if (kx_part T len K p).1 = true then kx_loop T len t (kx_part T len K p).2.1 (kx_part T len K p).2.2 else (some (kx_part T len K p).2.2, (kx_part T len K p).2.1)) else (none, K)
def kx_read (T : Nat → Nat) (len : Nat) : Option Nat × ce_V := if len = 0 ∨ T 0 ≠ 67 then (some 0, kv_0) else kx_loop T len 120 kv_0 1
theorem kx_loop_n {T : Nat → Nat} {len t p : Nat} {K : ce_V} (h : ¬ p < len) : kx_loop T len t K p = (none, K) := by
  cases t with
  | zero => rfl
  | succ t => exact if_neg h
theorem kx_loop_x {T : Nat → Nat} {len t p : Nat} {K : ce_V} (ht : 0 < t) (h : p < len) (h1 : ¬ (kx_part T len K p).1 = true) : kx_loop T len t K p = (some (kx_part T len K p).2.2, (kx_part T len K p).2.1) := by
  obtain ⟨u, rfl⟩ : ∃ u, t = u + 1 := ⟨t - 1, by omega⟩
  exact (if_pos h).trans (if_neg h1)
theorem kx_loop_y {T : Nat → Nat} {len t p : Nat} {K : ce_V} (ht : 0 < t) (h : p < len) (h1 : (kx_part T len K p).1 = true) : kx_loop T len t K p = kx_loop T len (t - 1) (kx_part T len K p).2.1 (kx_part T len K p).2.2 := by
  obtain ⟨u, rfl⟩ : ∃ u, t = u + 1 := ⟨t - 1, by omega⟩
  exact (if_pos h).trans (if_pos h1)
theorem kx_loop_cl {T : Nat → Nat} {len : Nat} : ∀ {t p : Nat} {K : ce_V}, kv_cl K → kv_cl (kx_loop T len t K p).2
  | 0, _, _, h => h
  | t + 1, p, K, h => by
    unfold kx_loop
    split
    · rename_i hp
      split
      · exact kx_loop_cl (kx_part_ok h hp).1
      · exact (kx_part_ok h hp).1
    · exact h
theorem cl_z : ∀ n, ce_sum (fun _ => 0) n = 0
  | 0 => rfl
  | n + 1 => by rw [ce_sum, cl_z n]
theorem cl_0 : kv_cl kv_0 := by
  have hz : ∀ a w, kv_sum kv_0 a w = 0 := fun a w => cl_z 6
  refine ⟨⟨Nat.zero_le _, fun b => ⟨Nat.le_refl _, Nat.zero_le _⟩, fun b _ => rfl, fun b h => absurd h (Nat.lt_irrefl 0), fun b h => absurd h (Nat.not_lt_zero b)⟩, Nat.zero_le _, Nat.zero_le _, fun _ => Nat.zero_le _, fun _ => Nat.zero_le _, fun _ => Nat.zero_le _, fun _ => Nat.zero_le _, fun w hw => ⟨Nat.zero_le _, by rw [hz, hz, hz]; rfl⟩, fun w hw => ?_, fun m w _ _ => ⟨rfl, rfl, rfl, rfl, rfl⟩, fun w _ _ => ⟨rfl, rfl, rfl, fun _ _ => rfl⟩, fun w _ _ m _ => rfl, fun w _ _ m _ => ⟨rfl, rfl⟩⟩
  rw [hz]
  unfold kv_bs
  refine (ce_sum_cong (F := fun _ => 0) fun j hj => ?_).trans (cl_z 8)
  show (if _ then _ else _) = 0
  split <;> rfl
theorem kx_read_cl {T : Nat → Nat} {len : Nat} : kv_cl (kx_read T len).2 := by
  unfold kx_read
  split
  · exact cl_0
  · exact kx_loop_cl cl_0
set_option maxHeartbeats 2000000 in
set_option maxRecDepth 20000 in
theorem m_X6_readMember {σ : ce_S} {g0 g : ce_D} (a : Nat) (b : Nat → Nat) (hX : ce_LX σ a b) (T : Nat → Nat) (len p : Nat) (K : ce_V) (h120 : len ≤ 120) (hch : ∀ i, i < len → g0 (a + 22) i = nI (T i)) (hT : ∀ i, i < len → T i < 256) (hR : kx_rt g0 g a len p K) (hk : kv_cl K) (hpl : p < len) : ce_CT (ce_r 2) mX6_readMember [.ref (a + 21)] σ g (ce_rv σ (fun z9 g1 => z9 = (if (kx_pm T len K p).1 = true then 1 else 0) ∧ kx_rt g0 g1 a len (kx_pm T len K p).2.2 (kx_pm T len K p).2.1)) ce_no := by
  have hB := hk.i7
  have hM := hk.me
  have hW := hk.wi
  refine ce_enter (by decide) rfl (Nat.le_of_ble_eq_true rfl) (L := [some (.ref (a + 21)), none]) rfl ?_
  refine ce_aload_n dX6_readMember_0 rfl ?_
  refine ce_getR dX6_readMember_1 fRX6_18 hX.2.2.2.2.2.1.1 hX.2.2.2.2.2.1.2.1.2.1 ?_
  refine ce_getIv dX6_readMember_4 fRX6_53 (hX.2.2.2.2.2.1.2.2.2.1).1 ((hR).2.2.1).1 ?_
  refine ce_bipush (v := nI (6)) dX6_readMember_7 (by decide) ?_
  refine ce_icmp_neN (tgt := 14) dX6_readMember_9 (by decide) rfl rfl (by omega) (by omega) (fun c_9 => ?_) (fun c_9 => ?_)
  · refine ce_aload_n dX6_readMember_14 rfl ?_
    refine ce_dup dX6_readMember_15 rfl ?_
    refine ce_getIv dX6_readMember_16 fRX6_33 hX.2.2.2.2.2.1.1 (hR).2.1 ?_
    refine ce_iconst (v := nI (1)) dX6_readMember_19 (by decide) ?_
    refine ce_iadd (z := nI (p + 1)) dX6_readMember_20 (nI_add _ _) ?_
    refine ce_putI dX6_readMember_21 pRX6_33 hX.2.2.2.2.2.1.1 rfl rfl ?_
    generalize hcg1 : ce_up g (a + 21) 2 (nI (p + 1)) = cg1
    have qcg1 := kx_rt_put hR (p + 1) hcg1
    refine ce_aload_n dX6_readMember_24 rfl ?_
    refine ce_iconst (v := nI (3)) dX6_readMember_25 (by decide) ?_
    refine ce_iconst (v := nI (0)) dX6_readMember_26 (by decide) ?_
    refine ce_sipush (v := nI (999)) dX6_readMember_27 (by decide) ?_
    rcases h09 : kx_num T len (0) (999) [100, 10, 1] 0 (p + 1) with ⟨_ | n0, u0⟩
    · have l0 := kx_num_q h09
      refine ce_cVr dX6_readMember_30 hX6_readNumber kRX6_56 (m_X6_readNumber3 a b hX T len (p + 1) (0) (999) h120 (by omega) (by omega) (by omega) (qcg1).1 (qcg1).2.1 (kx_rt_ch qcg1 hch) hT) rfl rfl hX.2.2.2.2.2.1.1 rfl (by decide) (Nat.le_of_ble_eq_true rfl) (fun rcg2 cg2 hcg2 => ?_)
      rw [h09] at hcg2
      obtain ⟨ecg2, fcg2⟩ := hcg2
      have ecg2 : rcg2 = -99999 := ecg2
      subst ecg2
      have qcg2 := kx_rt_num qcg1 fcg2
      refine ce_istore_n dX6_readMember_33 (Nat.le_of_ble_eq_true rfl) rfl ?_
      refine ce_iload_n dX6_readMember_34 rfl ?_
      refine ce_ldc dX6_readMember_35 kRX6_40 ?_
      refine ce_icmp_neI (p := (-99999)) (q := (-99999)) (tgt := 42) dX6_readMember_37 (by decide) (by decide) (by decide) (fun c_37 => ?_) (fun c_37 => ?_)
      · omega
      · refine ce_iconst (v := nI (0)) dX6_readMember_40 (by decide) ?_
        refine ce_iret dX6_readMember_41 rfl (by first | rfl | decide) (by decide) (by decide) ?_
        have e : kx_pm T len K p = (false, K, u0) := by
          unfold kx_pm
          rw [if_neg (by omega), h09] <;> rfl
        rw [e]
        exact ⟨_, rfl, rfl, rfl, qcg2⟩
    · have l0 := kx_num_le3 h09
      refine ce_cVr dX6_readMember_30 hX6_readNumber kRX6_56 (m_X6_readNumber3 a b hX T len (p + 1) (0) (999) h120 (by omega) (by omega) (by omega) (qcg1).1 (qcg1).2.1 (kx_rt_ch qcg1 hch) hT) rfl rfl hX.2.2.2.2.2.1.1 rfl (by decide) (Nat.le_of_ble_eq_true rfl) (fun rcg2 cg2 hcg2 => ?_)
      rw [h09] at hcg2
      obtain ⟨ecg2, fcg2⟩ := hcg2
      have ecg2 : rcg2 = nI n0 := ecg2
      subst ecg2
      have qcg2 := kx_rt_num qcg1 fcg2
      refine ce_istore_n dX6_readMember_33 (Nat.le_of_ble_eq_true rfl) rfl ?_
      refine ce_iload_n dX6_readMember_34 rfl ?_
      refine ce_ldc dX6_readMember_35 kRX6_40 ?_
      refine ce_icmp_neI (p := ((n0 : Nat) : Int)) (q := (-99999)) (tgt := 42) dX6_readMember_37 (by decide) (nI_toInt (by omega)) (by decide) (fun c_37 => ?_) (fun c_37 => ?_)
      · refine ce_aload_n dX6_readMember_42 rfl ?_
        refine ce_getR dX6_readMember_43 fRX6_18 hX.2.2.2.2.2.1.1 hX.2.2.2.2.2.1.2.1.2.1 ?_
        refine ce_iload_n dX6_readMember_46 rfl ?_
        refine ce_cVr dX6_readMember_47 hX0_enrol kRX6_60 (m_X0_enrol (a + 23) K (fun _ => 0) hX.2.2.2.2.2.1.2.2.2.1 (qcg2).2.2.1 hk (n0) (by omega)) rfl rfl (hX.2.2.2.2.2.1.2.2.2.1).1 rfl (by decide) (Nat.le_of_ble_eq_true rfl) (fun rcg3 cg3 hcg3 => ?_)
        have qcg3 := kx_rt_cl qcg2 hcg3.2.1 hcg3.2.2
        refine ce_pop dX6_readMember_50 rfl ?_
        refine ce_iconst (v := nI (1)) dX6_readMember_51 (by decide) ?_
        refine ce_iret dX6_readMember_52 rfl (by first | rfl | decide) (by decide) (by decide) ?_
        have e : kx_pm T len K p = (true, kv_enr K n0, u0) := by
          unfold kx_pm
          rw [if_neg (by omega), h09] <;> rfl
        rw [e]
        exact ⟨_, rfl, rfl, rfl, qcg3⟩
      · omega
  · refine ce_iconst (v := nI (0)) dX6_readMember_12 (by decide) ?_
    refine ce_iret dX6_readMember_13 rfl (by first | rfl | decide) (by decide) (by decide) ?_
    have e : kx_pm T len K p = (false, K, p) := by
      unfold kx_pm
      rw [if_pos (by omega)]
    rw [e]
    exact ⟨_, rfl, rfl, rfl, hR⟩
set_option maxHeartbeats 2000000 in
set_option maxRecDepth 20000 in
theorem m_X6_readWine {σ : ce_S} {g0 g : ce_D} (a : Nat) (b : Nat → Nat) (hX : ce_LX σ a b) (T : Nat → Nat) (len p : Nat) (K : ce_V) (h120 : len ≤ 120) (hch : ∀ i, i < len → g0 (a + 22) i = nI (T i)) (hT : ∀ i, i < len → T i < 256) (hR : kx_rt g0 g a len p K) (hk : kv_cl K) (hpl : p < len) : ce_CT (ce_r 2) mX6_readWine [.ref (a + 21)] σ g (ce_rv σ (fun z9 g1 => z9 = (if (kx_pw T len K p).1 = true then 1 else 0) ∧ kx_rt g0 g1 a len (kx_pw T len K p).2.2 (kx_pw T len K p).2.1)) ce_no := by
  have hB := hk.i7
  have hM := hk.me
  have hW := hk.wi
  refine ce_enter (by decide) rfl (Nat.le_of_ble_eq_true rfl) (L := [some (.ref (a + 21)), none, none]) rfl ?_
  refine ce_aload_n dX6_readWine_0 rfl ?_
  refine ce_getR dX6_readWine_1 fRX6_18 hX.2.2.2.2.2.1.1 hX.2.2.2.2.2.1.2.1.2.1 ?_
  refine ce_getIv dX6_readWine_4 fRX6_64 (hX.2.2.2.2.2.1.2.2.2.1).1 ((hR).2.2.1).2.1 ?_
  refine ce_bipush (v := nI (6)) dX6_readWine_7 (by decide) ?_
  refine ce_icmp_neN (tgt := 14) dX6_readWine_9 (by decide) rfl rfl (by omega) (by omega) (fun c_9 => ?_) (fun c_9 => ?_)
  · refine ce_aload_n dX6_readWine_14 rfl ?_
    refine ce_dup dX6_readWine_15 rfl ?_
    refine ce_getIv dX6_readWine_16 fRX6_33 hX.2.2.2.2.2.1.1 (hR).2.1 ?_
    refine ce_iconst (v := nI (1)) dX6_readWine_19 (by decide) ?_
    refine ce_iadd (z := nI (p + 1)) dX6_readWine_20 (nI_add _ _) ?_
    refine ce_putI dX6_readWine_21 pRX6_33 hX.2.2.2.2.2.1.1 rfl rfl ?_
    generalize hcg1 : ce_up g (a + 21) 2 (nI (p + 1)) = cg1
    have qcg1 := kx_rt_put hR (p + 1) hcg1
    refine ce_aload_n dX6_readWine_24 rfl ?_
    refine ce_iconst (v := nI (2)) dX6_readWine_25 (by decide) ?_
    refine ce_iconst (v := nI (1)) dX6_readWine_26 (by decide) ?_
    refine ce_bipush (v := nI (99)) dX6_readWine_27 (by decide) ?_
    rcases h09 : kx_num T len (1) (99) [10, 1] 0 (p + 1) with ⟨_ | n0, u0⟩
    · have l0 := kx_num_q h09
      refine ce_cVr dX6_readWine_29 hX6_readNumber kRX6_56 (m_X6_readNumber2 a b hX T len (p + 1) (1) (99) h120 (by omega) (by omega) (by omega) (qcg1).1 (qcg1).2.1 (kx_rt_ch qcg1 hch) hT) rfl rfl hX.2.2.2.2.2.1.1 rfl (by decide) (Nat.le_of_ble_eq_true rfl) (fun rcg2 cg2 hcg2 => ?_)
      rw [h09] at hcg2
      obtain ⟨ecg2, fcg2⟩ := hcg2
      have ecg2 : rcg2 = -99999 := ecg2
      subst ecg2
      have qcg2 := kx_rt_num qcg1 fcg2
      refine ce_istore_n dX6_readWine_32 (Nat.le_of_ble_eq_true rfl) rfl ?_
      refine ce_iload_n dX6_readWine_33 rfl ?_
      refine ce_ldc dX6_readWine_34 kRX6_40 ?_
      refine ce_icmp_neI (p := (-99999)) (q := (-99999)) (tgt := 41) dX6_readWine_36 (by decide) (by decide) (by decide) (fun c_36 => ?_) (fun c_36 => ?_)
      · omega
      · refine ce_iconst (v := nI (0)) dX6_readWine_39 (by decide) ?_
        refine ce_iret dX6_readWine_40 rfl (by first | rfl | decide) (by decide) (by decide) ?_
        have e : kx_pw T len K p = (false, K, u0) := by
          unfold kx_pw
          rw [if_neg (by omega), h09] <;> rfl
        rw [e]
        exact ⟨_, rfl, rfl, rfl, qcg2⟩
    · have l0 := kx_num_le2 h09
      refine ce_cVr dX6_readWine_29 hX6_readNumber kRX6_56 (m_X6_readNumber2 a b hX T len (p + 1) (1) (99) h120 (by omega) (by omega) (by omega) (qcg1).1 (qcg1).2.1 (kx_rt_ch qcg1 hch) hT) rfl rfl hX.2.2.2.2.2.1.1 rfl (by decide) (Nat.le_of_ble_eq_true rfl) (fun rcg2 cg2 hcg2 => ?_)
      rw [h09] at hcg2
      obtain ⟨ecg2, fcg2⟩ := hcg2
      have ecg2 : rcg2 = nI n0 := ecg2
      subst ecg2
      have qcg2 := kx_rt_num qcg1 fcg2
      refine ce_istore_n dX6_readWine_32 (Nat.le_of_ble_eq_true rfl) rfl ?_
      refine ce_iload_n dX6_readWine_33 rfl ?_
      refine ce_ldc dX6_readWine_34 kRX6_40 ?_
      refine ce_icmp_neI (p := ((n0 : Nat) : Int)) (q := (-99999)) (tgt := 41) dX6_readWine_36 (by decide) (nI_toInt (by omega)) (by decide) (fun c_36 => ?_) (fun c_36 => ?_)
      · refine ce_aload_n dX6_readWine_41 rfl ?_
        refine ce_iconst (v := nI (2)) dX6_readWine_42 (by decide) ?_
        refine ce_iconst (v := nI (0)) dX6_readWine_43 (by decide) ?_
        refine ce_bipush (v := nI (60)) dX6_readWine_44 (by decide) ?_
        rcases h19 : kx_num T len (0) (60) [10, 1] 0 (u0) with ⟨_ | n1, u1⟩
        · have l1 := kx_num_q h19
          refine ce_cVr dX6_readWine_46 hX6_readNumber kRX6_56 (m_X6_readNumber2 a b hX T len (u0) (0) (60) h120 (by omega) (by omega) (by omega) (qcg2).1 (qcg2).2.1 (kx_rt_ch qcg2 hch) hT) rfl rfl hX.2.2.2.2.2.1.1 rfl (by decide) (Nat.le_of_ble_eq_true rfl) (fun rcg3 cg3 hcg3 => ?_)
          rw [h19] at hcg3
          obtain ⟨ecg3, fcg3⟩ := hcg3
          have ecg3 : rcg3 = -99999 := ecg3
          subst ecg3
          have qcg3 := kx_rt_num qcg2 fcg3
          refine ce_istore_n dX6_readWine_49 (Nat.le_of_ble_eq_true rfl) rfl ?_
          refine ce_iload_n dX6_readWine_50 rfl ?_
          refine ce_ldc dX6_readWine_51 kRX6_40 ?_
          refine ce_icmp_neI (p := (-99999)) (q := (-99999)) (tgt := 58) dX6_readWine_53 (by decide) (by decide) (by decide) (fun c_53 => ?_) (fun c_53 => ?_)
          · omega
          · refine ce_iconst (v := nI (0)) dX6_readWine_56 (by decide) ?_
            refine ce_iret dX6_readWine_57 rfl (by first | rfl | decide) (by decide) (by decide) ?_
            have e : kx_pw T len K p = (false, K, u1) := by
              unfold kx_pw
              rw [if_neg (by omega), h09]
              dsimp only
              rw [h19] <;> rfl
            rw [e]
            exact ⟨_, rfl, rfl, rfl, qcg3⟩
        · have l1 := kx_num_le2 h19
          refine ce_cVr dX6_readWine_46 hX6_readNumber kRX6_56 (m_X6_readNumber2 a b hX T len (u0) (0) (60) h120 (by omega) (by omega) (by omega) (qcg2).1 (qcg2).2.1 (kx_rt_ch qcg2 hch) hT) rfl rfl hX.2.2.2.2.2.1.1 rfl (by decide) (Nat.le_of_ble_eq_true rfl) (fun rcg3 cg3 hcg3 => ?_)
          rw [h19] at hcg3
          obtain ⟨ecg3, fcg3⟩ := hcg3
          have ecg3 : rcg3 = nI n1 := ecg3
          subst ecg3
          have qcg3 := kx_rt_num qcg2 fcg3
          refine ce_istore_n dX6_readWine_49 (Nat.le_of_ble_eq_true rfl) rfl ?_
          refine ce_iload_n dX6_readWine_50 rfl ?_
          refine ce_ldc dX6_readWine_51 kRX6_40 ?_
          refine ce_icmp_neI (p := ((n1 : Nat) : Int)) (q := (-99999)) (tgt := 58) dX6_readWine_53 (by decide) (nI_toInt (by omega)) (by decide) (fun c_53 => ?_) (fun c_53 => ?_)
          · refine ce_aload_n dX6_readWine_58 rfl ?_
            refine ce_getR dX6_readWine_59 fRX6_18 hX.2.2.2.2.2.1.1 hX.2.2.2.2.2.1.2.1.2.1 ?_
            refine ce_iload_n dX6_readWine_62 rfl ?_
            refine ce_iload_n dX6_readWine_63 rfl ?_
            refine ce_cVr dX6_readWine_64 hX0_offer kRX6_67 (m_X0_offer (a + 23) K (fun _ => 0) hX.2.2.2.2.2.1.2.2.2.1 (qcg3).2.2.1 hk (n0) (n1) (by omega)) rfl rfl (hX.2.2.2.2.2.1.2.2.2.1).1 rfl (by decide) (Nat.le_of_ble_eq_true rfl) (fun rcg4 cg4 hcg4 => ?_)
            have qcg4 := kx_rt_cl qcg3 hcg4.2.1 hcg4.2.2
            refine ce_pop dX6_readWine_67 rfl ?_
            refine ce_iconst (v := nI (1)) dX6_readWine_68 (by decide) ?_
            refine ce_iret dX6_readWine_69 rfl (by first | rfl | decide) (by decide) (by decide) ?_
            have e : kx_pw T len K p = (true, kv_off K n0 n1, u1) := by
              unfold kx_pw
              rw [if_neg (by omega), h09]
              dsimp only
              rw [h19] <;> rfl
            rw [e]
            exact ⟨_, rfl, rfl, rfl, qcg4⟩
          · omega
      · omega
  · refine ce_iconst (v := nI (0)) dX6_readWine_12 (by decide) ?_
    refine ce_iret dX6_readWine_13 rfl (by first | rfl | decide) (by decide) (by decide) ?_
    have e : kx_pw T len K p = (false, K, p) := by
      unfold kx_pw
      rw [if_pos (by omega)]
    rw [e]
    exact ⟨_, rfl, rfl, rfl, hR⟩
set_option maxHeartbeats 2000000 in
set_option maxRecDepth 20000 in
theorem m_X6_readBin {σ : ce_S} {g0 g : ce_D} (a : Nat) (b : Nat → Nat) (hX : ce_LX σ a b) (T : Nat → Nat) (len p : Nat) (K : ce_V) (h120 : len ≤ 120) (hch : ∀ i, i < len → g0 (a + 22) i = nI (T i)) (hT : ∀ i, i < len → T i < 256) (hR : kx_rt g0 g a len p K) (hk : kv_cl K) (hpl : p < len) : ce_CT (ce_r 2) mX6_readBin [.ref (a + 21)] σ g (ce_rv σ (fun z9 g1 => z9 = (if (kx_pb T len K p).1 = true then 1 else 0) ∧ kx_rt g0 g1 a len (kx_pb T len K p).2.2 (kx_pb T len K p).2.1)) ce_no := by
  have hB := hk.i7
  have hM := hk.me
  have hW := hk.wi
  refine ce_enter (by decide) rfl (Nat.le_of_ble_eq_true rfl) (L := [some (.ref (a + 21)), none]) rfl ?_
  refine ce_aload_n dX6_readBin_0 rfl ?_
  refine ce_getR dX6_readBin_1 fRX6_18 hX.2.2.2.2.2.1.1 hX.2.2.2.2.2.1.2.1.2.1 ?_
  refine ce_getR dX6_readBin_4 fRX6_71 (hX.2.2.2.2.2.1.2.2.2.1).1 (hX.2.2.2.2.2.1.2.2.2.1).2.2.1.2.2.2.2 ?_
  refine ce_getIv dX6_readBin_7 fRX6_75 ((hX.2.2.2.2.2.1.2.2.2.1).2.2.2.2.2).1 (((hR).2.2.1).k.1) ?_
  refine ce_bipush (v := nI (8)) dX6_readBin_10 (by decide) ?_
  refine ce_icmp_neN (tgt := 17) dX6_readBin_12 (by decide) rfl rfl (by omega) (by omega) (fun c_12 => ?_) (fun c_12 => ?_)
  · refine ce_aload_n dX6_readBin_17 rfl ?_
    refine ce_dup dX6_readBin_18 rfl ?_
    refine ce_getIv dX6_readBin_19 fRX6_33 hX.2.2.2.2.2.1.1 (hR).2.1 ?_
    refine ce_iconst (v := nI (1)) dX6_readBin_22 (by decide) ?_
    refine ce_iadd (z := nI (p + 1)) dX6_readBin_23 (nI_add _ _) ?_
    refine ce_putI dX6_readBin_24 pRX6_33 hX.2.2.2.2.2.1.1 rfl rfl ?_
    generalize hcg1 : ce_up g (a + 21) 2 (nI (p + 1)) = cg1
    have qcg1 := kx_rt_put hR (p + 1) hcg1
    refine ce_aload_n dX6_readBin_27 rfl ?_
    refine ce_iconst (v := nI (2)) dX6_readBin_28 (by decide) ?_
    refine ce_iconst (v := nI (1)) dX6_readBin_29 (by decide) ?_
    refine ce_bipush (v := nI (24)) dX6_readBin_30 (by decide) ?_
    rcases h09 : kx_num T len (1) (24) [10, 1] 0 (p + 1) with ⟨_ | n0, u0⟩
    · have l0 := kx_num_q h09
      refine ce_cVr dX6_readBin_32 hX6_readNumber kRX6_56 (m_X6_readNumber2 a b hX T len (p + 1) (1) (24) h120 (by omega) (by omega) (by omega) (qcg1).1 (qcg1).2.1 (kx_rt_ch qcg1 hch) hT) rfl rfl hX.2.2.2.2.2.1.1 rfl (by decide) (Nat.le_of_ble_eq_true rfl) (fun rcg2 cg2 hcg2 => ?_)
      rw [h09] at hcg2
      obtain ⟨ecg2, fcg2⟩ := hcg2
      have ecg2 : rcg2 = -99999 := ecg2
      subst ecg2
      have qcg2 := kx_rt_num qcg1 fcg2
      refine ce_istore_n dX6_readBin_35 (Nat.le_of_ble_eq_true rfl) rfl ?_
      refine ce_iload_n dX6_readBin_36 rfl ?_
      refine ce_ldc dX6_readBin_37 kRX6_40 ?_
      refine ce_icmp_neI (p := (-99999)) (q := (-99999)) (tgt := 44) dX6_readBin_39 (by decide) (by decide) (by decide) (fun c_39 => ?_) (fun c_39 => ?_)
      · omega
      · refine ce_iconst (v := nI (0)) dX6_readBin_42 (by decide) ?_
        refine ce_iret dX6_readBin_43 rfl (by first | rfl | decide) (by decide) (by decide) ?_
        have e : kx_pb T len K p = (false, K, u0) := by
          unfold kx_pb
          rw [if_neg (by omega), h09] <;> rfl
        rw [e]
        exact ⟨_, rfl, rfl, rfl, qcg2⟩
    · have l0 := kx_num_le2 h09
      refine ce_cVr dX6_readBin_32 hX6_readNumber kRX6_56 (m_X6_readNumber2 a b hX T len (p + 1) (1) (24) h120 (by omega) (by omega) (by omega) (qcg1).1 (qcg1).2.1 (kx_rt_ch qcg1 hch) hT) rfl rfl hX.2.2.2.2.2.1.1 rfl (by decide) (Nat.le_of_ble_eq_true rfl) (fun rcg2 cg2 hcg2 => ?_)
      rw [h09] at hcg2
      obtain ⟨ecg2, fcg2⟩ := hcg2
      have ecg2 : rcg2 = nI n0 := ecg2
      subst ecg2
      have qcg2 := kx_rt_num qcg1 fcg2
      refine ce_istore_n dX6_readBin_35 (Nat.le_of_ble_eq_true rfl) rfl ?_
      refine ce_iload_n dX6_readBin_36 rfl ?_
      refine ce_ldc dX6_readBin_37 kRX6_40 ?_
      refine ce_icmp_neI (p := ((n0 : Nat) : Int)) (q := (-99999)) (tgt := 44) dX6_readBin_39 (by decide) (nI_toInt (by omega)) (by decide) (fun c_39 => ?_) (fun c_39 => ?_)
      · refine ce_aload_n dX6_readBin_44 rfl ?_
        refine ce_getR dX6_readBin_45 fRX6_18 hX.2.2.2.2.2.1.1 hX.2.2.2.2.2.1.2.1.2.1 ?_
        refine ce_getR dX6_readBin_48 fRX6_71 (hX.2.2.2.2.2.1.2.2.2.1).1 (hX.2.2.2.2.2.1.2.2.2.1).2.2.1.2.2.2.2 ?_
        refine ce_iload_n dX6_readBin_51 rfl ?_
        refine ce_cVr dX6_readBin_52 hX3_install kRX6_80 (m_X3_install (a + 23 + 16) K hX.2.2.2.2.2.1.2.2.2.1.2.2.2.2.2 (qcg2).2.2.1.k hk.rk (n0) (by omega)) rfl rfl ((hX.2.2.2.2.2.1.2.2.2.1).2.2.2.2.2).1 rfl (by decide) (Nat.le_of_ble_eq_true rfl) (fun rcg3 cg3 hcg3 => ?_)
        have qcg3 := kx_rt_cl qcg2 ((qcg2).2.2.1.rk hcg3.2.1 hcg3.2.2 kv_eq_inst) (hcg3.2.2.wk ⟨by omega, by omega⟩)
        refine ce_pop dX6_readBin_55 rfl ?_
        refine ce_iconst (v := nI (1)) dX6_readBin_56 (by decide) ?_
        refine ce_iret dX6_readBin_57 rfl (by first | rfl | decide) (by decide) (by decide) ?_
        have e : kx_pb T len K p = (true, kv_inst K n0, u0) := by
          unfold kx_pb
          rw [if_neg (by omega), h09] <;> rfl
        rw [e]
        exact ⟨_, rfl, rfl, rfl, qcg3⟩
      · omega
  · refine ce_iconst (v := nI (0)) dX6_readBin_15 (by decide) ?_
    refine ce_iret dX6_readBin_16 rfl (by first | rfl | decide) (by decide) (by decide) ?_
    have e : kx_pb T len K p = (false, K, p) := by
      unfold kx_pb
      rw [if_pos (by omega)]
    rw [e]
    exact ⟨_, rfl, rfl, rfl, hR⟩
set_option maxHeartbeats 2000000 in
set_option maxRecDepth 20000 in
theorem m_X6_readOrder {σ : ce_S} {g0 g : ce_D} (a : Nat) (b : Nat → Nat) (hX : ce_LX σ a b) (T : Nat → Nat) (len p : Nat) (K : ce_V) (h120 : len ≤ 120) (hch : ∀ i, i < len → g0 (a + 22) i = nI (T i)) (hT : ∀ i, i < len → T i < 256) (hR : kx_rt g0 g a len p K) (hk : kv_cl K) (hpl : p < len) : ce_CT (ce_r 2) mX6_readOrder [.ref (a + 21)] σ g (ce_rv σ (fun z9 g1 => z9 = (if (kx_po T len K p).1 = true then 1 else 0) ∧ kx_rt g0 g1 a len (kx_po T len K p).2.2 (kx_po T len K p).2.1)) ce_no := by
  have hB := hk.i7
  have hM := hk.me
  have hW := hk.wi
  refine ce_enter (by decide) rfl (Nat.le_of_ble_eq_true rfl) (L := [some (.ref (a + 21)), none, none, none]) rfl ?_
  refine ce_aload_n dX6_readOrder_0 rfl ?_
  refine ce_getR dX6_readOrder_1 fRX6_18 hX.2.2.2.2.2.1.1 hX.2.2.2.2.2.1.2.1.2.1 ?_
  refine ce_getIv dX6_readOrder_4 fRX6_53 (hX.2.2.2.2.2.1.2.2.2.1).1 ((hR).2.2.1).1 ?_
  refine ce_if_eqN (tgt := 20) dX6_readOrder_7 (by decide) rfl (by omega) (fun c_7 => ?_) (fun c_7 => ?_)
  · refine ce_iconst (v := nI (0)) dX6_readOrder_20 (by decide) ?_
    refine ce_iret dX6_readOrder_21 rfl (by first | rfl | decide) (by decide) (by decide) ?_
    have e : kx_po T len K p = (false, K, p) := by
      unfold kx_po
      rw [if_pos (by omega)]
    rw [e]
    exact ⟨_, rfl, rfl, rfl, hR⟩
  · refine ce_aload_n dX6_readOrder_10 rfl ?_
    refine ce_getR dX6_readOrder_11 fRX6_18 hX.2.2.2.2.2.1.1 hX.2.2.2.2.2.1.2.1.2.1 ?_
    refine ce_getIv dX6_readOrder_14 fRX6_64 (hX.2.2.2.2.2.1.2.2.2.1).1 ((hR).2.2.1).2.1 ?_
    refine ce_if_neN (tgt := 22) dX6_readOrder_17 (by decide) rfl (by omega) (fun c_17 => ?_) (fun c_17 => ?_)
    · refine ce_aload_n dX6_readOrder_22 rfl ?_
      refine ce_dup dX6_readOrder_23 rfl ?_
      refine ce_getIv dX6_readOrder_24 fRX6_33 hX.2.2.2.2.2.1.1 (hR).2.1 ?_
      refine ce_iconst (v := nI (1)) dX6_readOrder_27 (by decide) ?_
      refine ce_iadd (z := nI (p + 1)) dX6_readOrder_28 (nI_add _ _) ?_
      refine ce_putI dX6_readOrder_29 pRX6_33 hX.2.2.2.2.2.1.1 rfl rfl ?_
      generalize hcg1 : ce_up g (a + 21) 2 (nI (p + 1)) = cg1
      have qcg1 := kx_rt_put hR (p + 1) hcg1
      refine ce_aload_n dX6_readOrder_32 rfl ?_
      refine ce_iconst (v := nI (1)) dX6_readOrder_33 (by decide) ?_
      refine ce_iconst (v := nI (0)) dX6_readOrder_34 (by decide) ?_
      refine ce_aload_n dX6_readOrder_35 rfl ?_
      refine ce_getR dX6_readOrder_36 fRX6_18 hX.2.2.2.2.2.1.1 hX.2.2.2.2.2.1.2.1.2.1 ?_
      refine ce_getIv dX6_readOrder_39 fRX6_53 (hX.2.2.2.2.2.1.2.2.2.1).1 ((qcg1).2.2.1).1 ?_
      refine ce_iconst (v := nI (1)) dX6_readOrder_42 (by decide) ?_
      refine ce_isub (z := nI (K 0 0 - (1))) dX6_readOrder_43 (pk_sub (by omega)) ?_
      rcases h09 : kx_num T len (0) (K 0 0 - 1) [1] 0 (p + 1) with ⟨_ | n0, u0⟩
      · have l0 := kx_num_q h09
        refine ce_cVr dX6_readOrder_44 hX6_readNumber kRX6_56 (m_X6_readNumber1 a b hX T len (p + 1) (0) (K 0 0 - 1) h120 (by omega) (by omega) (by omega) (qcg1).1 (qcg1).2.1 (kx_rt_ch qcg1 hch) hT) rfl rfl hX.2.2.2.2.2.1.1 rfl (by decide) (Nat.le_of_ble_eq_true rfl) (fun rcg2 cg2 hcg2 => ?_)
        rw [h09] at hcg2
        obtain ⟨ecg2, fcg2⟩ := hcg2
        have ecg2 : rcg2 = -99999 := ecg2
        subst ecg2
        have qcg2 := kx_rt_num qcg1 fcg2
        refine ce_istore_n dX6_readOrder_47 (Nat.le_of_ble_eq_true rfl) rfl ?_
        refine ce_iload_n dX6_readOrder_48 rfl ?_
        refine ce_ldc dX6_readOrder_49 kRX6_40 ?_
        refine ce_icmp_neI (p := (-99999)) (q := (-99999)) (tgt := 56) dX6_readOrder_51 (by decide) (by decide) (by decide) (fun c_51 => ?_) (fun c_51 => ?_)
        · omega
        · refine ce_iconst (v := nI (0)) dX6_readOrder_54 (by decide) ?_
          refine ce_iret dX6_readOrder_55 rfl (by first | rfl | decide) (by decide) (by decide) ?_
          have e : kx_po T len K p = (false, K, u0) := by
            unfold kx_po
            rw [if_neg (by omega), h09] <;> rfl
          rw [e]
          exact ⟨_, rfl, rfl, rfl, qcg2⟩
      · have l0 := kx_num_le1 h09
        refine ce_cVr dX6_readOrder_44 hX6_readNumber kRX6_56 (m_X6_readNumber1 a b hX T len (p + 1) (0) (K 0 0 - 1) h120 (by omega) (by omega) (by omega) (qcg1).1 (qcg1).2.1 (kx_rt_ch qcg1 hch) hT) rfl rfl hX.2.2.2.2.2.1.1 rfl (by decide) (Nat.le_of_ble_eq_true rfl) (fun rcg2 cg2 hcg2 => ?_)
        rw [h09] at hcg2
        obtain ⟨ecg2, fcg2⟩ := hcg2
        have ecg2 : rcg2 = nI n0 := ecg2
        subst ecg2
        have qcg2 := kx_rt_num qcg1 fcg2
        refine ce_istore_n dX6_readOrder_47 (Nat.le_of_ble_eq_true rfl) rfl ?_
        refine ce_iload_n dX6_readOrder_48 rfl ?_
        refine ce_ldc dX6_readOrder_49 kRX6_40 ?_
        refine ce_icmp_neI (p := ((n0 : Nat) : Int)) (q := (-99999)) (tgt := 56) dX6_readOrder_51 (by decide) (nI_toInt (by omega)) (by decide) (fun c_51 => ?_) (fun c_51 => ?_)
        · refine ce_aload_n dX6_readOrder_56 rfl ?_
          refine ce_iconst (v := nI (1)) dX6_readOrder_57 (by decide) ?_
          refine ce_iconst (v := nI (0)) dX6_readOrder_58 (by decide) ?_
          refine ce_aload_n dX6_readOrder_59 rfl ?_
          refine ce_getR dX6_readOrder_60 fRX6_18 hX.2.2.2.2.2.1.1 hX.2.2.2.2.2.1.2.1.2.1 ?_
          refine ce_getIv dX6_readOrder_63 fRX6_64 (hX.2.2.2.2.2.1.2.2.2.1).1 ((qcg2).2.2.1).2.1 ?_
          refine ce_iconst (v := nI (1)) dX6_readOrder_66 (by decide) ?_
          refine ce_isub (z := nI (K 0 1 - (1))) dX6_readOrder_67 (pk_sub (by omega)) ?_
          rcases h19 : kx_num T len (0) (K 0 1 - 1) [1] 0 (u0) with ⟨_ | n1, u1⟩
          · have l1 := kx_num_q h19
            refine ce_cVr dX6_readOrder_68 hX6_readNumber kRX6_56 (m_X6_readNumber1 a b hX T len (u0) (0) (K 0 1 - 1) h120 (by omega) (by omega) (by omega) (qcg2).1 (qcg2).2.1 (kx_rt_ch qcg2 hch) hT) rfl rfl hX.2.2.2.2.2.1.1 rfl (by decide) (Nat.le_of_ble_eq_true rfl) (fun rcg3 cg3 hcg3 => ?_)
            rw [h19] at hcg3
            obtain ⟨ecg3, fcg3⟩ := hcg3
            have ecg3 : rcg3 = -99999 := ecg3
            subst ecg3
            have qcg3 := kx_rt_num qcg2 fcg3
            refine ce_istore_n dX6_readOrder_71 (Nat.le_of_ble_eq_true rfl) rfl ?_
            refine ce_iload_n dX6_readOrder_72 rfl ?_
            refine ce_ldc dX6_readOrder_73 kRX6_40 ?_
            refine ce_icmp_neI (p := (-99999)) (q := (-99999)) (tgt := 80) dX6_readOrder_75 (by decide) (by decide) (by decide) (fun c_75 => ?_) (fun c_75 => ?_)
            · omega
            · refine ce_iconst (v := nI (0)) dX6_readOrder_78 (by decide) ?_
              refine ce_iret dX6_readOrder_79 rfl (by first | rfl | decide) (by decide) (by decide) ?_
              have e : kx_po T len K p = (false, K, u1) := by
                unfold kx_po
                rw [if_neg (by omega), h09]
                dsimp only
                rw [h19] <;> rfl
              rw [e]
              exact ⟨_, rfl, rfl, rfl, qcg3⟩
          · have l1 := kx_num_le1 h19
            refine ce_cVr dX6_readOrder_68 hX6_readNumber kRX6_56 (m_X6_readNumber1 a b hX T len (u0) (0) (K 0 1 - 1) h120 (by omega) (by omega) (by omega) (qcg2).1 (qcg2).2.1 (kx_rt_ch qcg2 hch) hT) rfl rfl hX.2.2.2.2.2.1.1 rfl (by decide) (Nat.le_of_ble_eq_true rfl) (fun rcg3 cg3 hcg3 => ?_)
            rw [h19] at hcg3
            obtain ⟨ecg3, fcg3⟩ := hcg3
            have ecg3 : rcg3 = nI n1 := ecg3
            subst ecg3
            have qcg3 := kx_rt_num qcg2 fcg3
            refine ce_istore_n dX6_readOrder_71 (Nat.le_of_ble_eq_true rfl) rfl ?_
            refine ce_iload_n dX6_readOrder_72 rfl ?_
            refine ce_ldc dX6_readOrder_73 kRX6_40 ?_
            refine ce_icmp_neI (p := ((n1 : Nat) : Int)) (q := (-99999)) (tgt := 80) dX6_readOrder_75 (by decide) (nI_toInt (by omega)) (by decide) (fun c_75 => ?_) (fun c_75 => ?_)
            · refine ce_aload_n dX6_readOrder_80 rfl ?_
              refine ce_iconst (v := nI (2)) dX6_readOrder_81 (by decide) ?_
              refine ce_iconst (v := nI (0)) dX6_readOrder_82 (by decide) ?_
              refine ce_bipush (v := nI (60)) dX6_readOrder_83 (by decide) ?_
              rcases h29 : kx_num T len (0) (60) [10, 1] 0 (u1) with ⟨_ | n2, u2⟩
              · have l2 := kx_num_q h29
                refine ce_cVr dX6_readOrder_85 hX6_readNumber kRX6_56 (m_X6_readNumber2 a b hX T len (u1) (0) (60) h120 (by omega) (by omega) (by omega) (qcg3).1 (qcg3).2.1 (kx_rt_ch qcg3 hch) hT) rfl rfl hX.2.2.2.2.2.1.1 rfl (by decide) (Nat.le_of_ble_eq_true rfl) (fun rcg4 cg4 hcg4 => ?_)
                rw [h29] at hcg4
                obtain ⟨ecg4, fcg4⟩ := hcg4
                have ecg4 : rcg4 = -99999 := ecg4
                subst ecg4
                have qcg4 := kx_rt_num qcg3 fcg4
                refine ce_istore_n dX6_readOrder_88 (Nat.le_of_ble_eq_true rfl) rfl ?_
                refine ce_iload_n dX6_readOrder_89 rfl ?_
                refine ce_ldc dX6_readOrder_90 kRX6_40 ?_
                refine ce_icmp_neI (p := (-99999)) (q := (-99999)) (tgt := 97) dX6_readOrder_92 (by decide) (by decide) (by decide) (fun c_92 => ?_) (fun c_92 => ?_)
                · omega
                · refine ce_iconst (v := nI (0)) dX6_readOrder_95 (by decide) ?_
                  refine ce_iret dX6_readOrder_96 rfl (by first | rfl | decide) (by decide) (by decide) ?_
                  have e : kx_po T len K p = (false, K, u2) := by
                    unfold kx_po
                    rw [if_neg (by omega), h09]
                    dsimp only
                    rw [h19]
                    dsimp only
                    rw [h29] <;> rfl
                  rw [e]
                  exact ⟨_, rfl, rfl, rfl, qcg4⟩
              · have l2 := kx_num_le2 h29
                refine ce_cVr dX6_readOrder_85 hX6_readNumber kRX6_56 (m_X6_readNumber2 a b hX T len (u1) (0) (60) h120 (by omega) (by omega) (by omega) (qcg3).1 (qcg3).2.1 (kx_rt_ch qcg3 hch) hT) rfl rfl hX.2.2.2.2.2.1.1 rfl (by decide) (Nat.le_of_ble_eq_true rfl) (fun rcg4 cg4 hcg4 => ?_)
                rw [h29] at hcg4
                obtain ⟨ecg4, fcg4⟩ := hcg4
                have ecg4 : rcg4 = nI n2 := ecg4
                subst ecg4
                have qcg4 := kx_rt_num qcg3 fcg4
                refine ce_istore_n dX6_readOrder_88 (Nat.le_of_ble_eq_true rfl) rfl ?_
                refine ce_iload_n dX6_readOrder_89 rfl ?_
                refine ce_ldc dX6_readOrder_90 kRX6_40 ?_
                refine ce_icmp_neI (p := ((n2 : Nat) : Int)) (q := (-99999)) (tgt := 97) dX6_readOrder_92 (by decide) (nI_toInt (by omega)) (by decide) (fun c_92 => ?_) (fun c_92 => ?_)
                · refine ce_aload_n dX6_readOrder_97 rfl ?_
                  refine ce_getR dX6_readOrder_98 fRX6_18 hX.2.2.2.2.2.1.1 hX.2.2.2.2.2.1.2.1.2.1 ?_
                  refine ce_iload_n dX6_readOrder_101 rfl ?_
                  refine ce_iload_n dX6_readOrder_102 rfl ?_
                  refine ce_iload_n dX6_readOrder_103 rfl ?_
                  refine ce_cVr dX6_readOrder_104 hX0_changeOrder kRX6_83 (m_X0_changeOrder (a + 23) K (fun _ => 0) hX.2.2.2.2.2.1.2.2.2.1 (qcg4).2.2.1 hk (n0) (n1) (n2) (by omega) (by omega)) rfl rfl (hX.2.2.2.2.2.1.2.2.2.1).1 rfl (by decide) (Nat.le_of_ble_eq_true rfl) (fun rcg5 cg5 hcg5 => ?_)
                  have qcg5 := kx_rt_cl qcg4 hcg5.2.1 hcg5.2.2
                  refine ce_pop dX6_readOrder_107 rfl ?_
                  refine ce_iconst (v := nI (1)) dX6_readOrder_108 (by decide) ?_
                  refine ce_iret dX6_readOrder_109 rfl (by first | rfl | decide) (by decide) (by decide) ?_
                  have e : kx_po T len K p = (true, kv_ord K n0 n1 n2, u2) := by
                    unfold kx_po
                    rw [if_neg (by omega), h09]
                    dsimp only
                    rw [h19]
                    dsimp only
                    rw [h29] <;> rfl
                  rw [e]
                  exact ⟨_, rfl, rfl, rfl, qcg5⟩
                · omega
            · omega
        · omega
    · refine ce_iconst (v := nI (0)) dX6_readOrder_20 (by decide) ?_
      refine ce_iret dX6_readOrder_21 rfl (by first | rfl | decide) (by decide) (by decide) ?_
      have e : kx_po T len K p = (false, K, p) := by
        unfold kx_po
        rw [if_pos (by omega)]
      rw [e]
      exact ⟨_, rfl, rfl, rfl, hR⟩
set_option maxHeartbeats 2000000 in
set_option maxRecDepth 20000 in
theorem m_X6_readPart {σ : ce_S} {g0 g : ce_D} (a : Nat) (b : Nat → Nat) (hX : ce_LX σ a b) (T : Nat → Nat) (len p : Nat) (K : ce_V) (h120 : len ≤ 120) (hch : ∀ i, i < len → g0 (a + 22) i = nI (T i)) (hT : ∀ i, i < len → T i < 256) (hR : kx_rt g0 g a len p K) (hk : kv_cl K) (hpl : p < len) : ce_CT (ce_r 3) mX6_readPart [.ref (a + 21)] σ g (ce_rv σ (fun z9 g1 => z9 = (if (kx_part T len K p).1 = true then 1 else 0) ∧ kx_rt g0 g1 a len (kx_part T len K p).2.2 (kx_part T len K p).2.1)) ce_no := by
  refine ce_enter (by decide) rfl (Nat.le_of_ble_eq_true rfl) (L := [some (.ref (a + 21))]) rfl ?_
  refine ce_aload_n dX6_readPart_0 rfl ?_
  refine ce_getR dX6_readPart_1 fRX6_9 hX.2.2.2.2.2.1.1 hX.2.2.2.2.2.1.2.1.1 ?_
  refine ce_aload_n dX6_readPart_4 rfl ?_
  refine ce_getIv dX6_readPart_5 fRX6_33 hX.2.2.2.2.2.1.1 (hR).2.1 ?_
  refine ce_caldv dX6_readPart_8 (hX.2.2.2.2.2.1.2.2.1).1 rfl (hX.2.2.2.2.2.1.2.2.1).2 (by omega) (by decide) (kx_rt_ch hR hch _ (by omega)) ?_
  by_cases c1 : T p = 109
  · rw [c1]
    refine ce_lookup (off := 43) (tgt := 52) dX6_readPart_9 (by decide) (by decide) (by decide) ?_
    refine ce_aload_n dX6_readPart_52 rfl ?_
    refine ce_cVr dX6_readPart_53 hX6_readMember kRX6_41 (m_X6_readMember a b hX T len p K h120 hch hT hR hk hpl) rfl rfl hX.2.2.2.2.2.1.1 rfl (by decide) (Nat.le_of_ble_eq_true rfl) (fun rcg1 cg1 hcg1 => ?_)
    obtain ⟨ecg1, fcg1⟩ := hcg1
    refine ce_iret dX6_readPart_56 rfl (by rw [ecg1]; split <;> rfl) (by decide) (by decide) ?_
    unfold kx_part
    rw [if_pos c1]
    exact ⟨_, rfl, rfl, ecg1, fcg1⟩
  by_cases c2 : T p = 119
  · rw [c2]
    refine ce_lookup (off := 48) (tgt := 57) dX6_readPart_9 (by decide) (by decide) (by decide) ?_
    refine ce_aload_n dX6_readPart_57 rfl ?_
    refine ce_cVr dX6_readPart_58 hX6_readWine kRX6_44 (m_X6_readWine a b hX T len p K h120 hch hT hR hk hpl) rfl rfl hX.2.2.2.2.2.1.1 rfl (by decide) (Nat.le_of_ble_eq_true rfl) (fun rcg1 cg1 hcg1 => ?_)
    obtain ⟨ecg1, fcg1⟩ := hcg1
    refine ce_iret dX6_readPart_61 rfl (by rw [ecg1]; split <;> rfl) (by decide) (by decide) ?_
    unfold kx_part
    rw [if_neg c1, if_pos c2]
    exact ⟨_, rfl, rfl, ecg1, fcg1⟩
  by_cases c3 : T p = 98
  · rw [c3]
    refine ce_lookup (off := 53) (tgt := 62) dX6_readPart_9 (by decide) (by decide) (by decide) ?_
    refine ce_aload_n dX6_readPart_62 rfl ?_
    refine ce_cVr dX6_readPart_63 hX6_readBin kRX6_47 (m_X6_readBin a b hX T len p K h120 hch hT hR hk hpl) rfl rfl hX.2.2.2.2.2.1.1 rfl (by decide) (Nat.le_of_ble_eq_true rfl) (fun rcg1 cg1 hcg1 => ?_)
    obtain ⟨ecg1, fcg1⟩ := hcg1
    refine ce_iret dX6_readPart_66 rfl (by rw [ecg1]; split <;> rfl) (by decide) (by decide) ?_
    unfold kx_part
    rw [if_neg c1, if_neg c2, if_pos c3]
    exact ⟨_, rfl, rfl, ecg1, fcg1⟩
  by_cases c4 : T p = 111
  · rw [c4]
    refine ce_lookup (off := 58) (tgt := 67) dX6_readPart_9 (by decide) (by decide) (by decide) ?_
    refine ce_aload_n dX6_readPart_67 rfl ?_
    refine ce_cVr dX6_readPart_68 hX6_readOrder kRX6_50 (m_X6_readOrder a b hX T len p K h120 hch hT hR hk hpl) rfl rfl hX.2.2.2.2.2.1.1 rfl (by decide) (Nat.le_of_ble_eq_true rfl) (fun rcg1 cg1 hcg1 => ?_)
    obtain ⟨ecg1, fcg1⟩ := hcg1
    refine ce_iret dX6_readPart_71 rfl (by rw [ecg1]; split <;> rfl) (by decide) (by decide) ?_
    unfold kx_part
    rw [if_neg c1, if_neg c2, if_neg c3, if_pos c4]
    exact ⟨_, rfl, rfl, ecg1, fcg1⟩
  have hTp := hT p hpl
  have hi := nI_toInt (n := T p) (by omega)
  have d98 : ¬ ((98 : Int) = ((T p : Nat) : Int)) := fun e => c3 (by omega)
  have d109 : ¬ ((109 : Int) = ((T p : Nat) : Int)) := fun e => c1 (by omega)
  have d111 : ¬ ((111 : Int) = ((T p : Nat) : Int)) := fun e => c4 (by omega)
  have d119 : ¬ ((119 : Int) = ((T p : Nat) : Int)) := fun e => c2 (by omega)
  refine ce_lookup (off := 63) (tgt := 72) dX6_readPart_9 (by decide) (by rw [show T (p) = T p from rfl, hi]; exact (if_neg d98).trans ((if_neg d109).trans ((if_neg d111).trans (if_neg d119)))) (by decide) ?_
  refine ce_iconst (v := nI (0)) dX6_readPart_72 (by decide) ?_
  refine ce_iret dX6_readPart_73 rfl (by first | rfl | decide) (by decide) (by decide) ?_
  unfold kx_part
  rw [if_neg c1, if_neg c2, if_neg c3, if_neg c4]
  exact ⟨_, rfl, rfl, rfl, hR⟩
