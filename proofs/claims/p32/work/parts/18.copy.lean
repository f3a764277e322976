section CEN
variable {ρ : Room} {Y : ce_Y} {kc ks pc : Nat} {L : List (Option Value)} {st : List Value} {σ : ce_S} {g : ce_D} {Q : Option Value → ce_S → ce_D → Prop} {X : String → ce_S → ce_D → Prop}
def ce_sv (P : ce_S → ce_D → Prop) : Option Value → ce_S → ce_D → Prop := fun v σ1 g1 => v = none ∧ P σ1 g1
def ce_tv (P : Int32 → ce_S → ce_D → Prop) : Option Value → ce_S → ce_D → Prop := fun v σ1 g1 => ∃ r : Int32, v = some (.int r) ∧ P r σ1 g1
theorem ce_cVs {Y' : ce_Y} {ρ' : Room} {n idx b ci : Nat} {stk As rest : List Value} {P : ce_S → ce_D → Prop} (d : decode Y.2.1 pc = .ok (.invokevirtual idx, 3)) (hY : ce_MV Y' n) (hl : Cond.methodLink Y.1.cls idx Y'.1 ∈ lw_tbl) (hC : ce_CT ρ' Y' (.ref b :: As) σ g (ce_sv P) ce_no) (hst : stk = As.reverse ++ .ref b :: rest) (hn : As.length = n) (hb : ce_kd σ b = ci + 1) (hcn : (vwCl[ci]?).map (fun r => r.1) = some Y'.1.cls) (hR : ce_rz ρ ρ' Y'.2.2.1 kc ks) (hrest : (rest.map fun v => v.category).sum ≤ 8) (kk : ∀ σ1 g1, P σ1 g1 → ce_WP ρ Y kc ks (pc + 3) L rest σ1 g1 Q X) : ce_WP ρ Y kc ks pc L stk σ g Q X := by
  obtain ⟨hR1, hz1, hz2, hk1, hk2⟩ := hR
  refine ce_callV d hY hl hC hst hn hb hcn hR1 hrest (by rw [hz1]; exact hk1) (by rw [hz2]; exact hk2) ?_
  rw [hz1, hz2]
  rintro v σ1 g1 ⟨rfl, h1⟩
  exact kk σ1 g1 h1
theorem ce_cVt {Y' : ce_Y} {ρ' : Room} {n idx b ci : Nat} {stk As rest : List Value} {P : Int32 → ce_S → ce_D → Prop} (d : decode Y.2.1 pc = .ok (.invokevirtual idx, 3)) (hY : ce_MV Y' n) (hl : Cond.methodLink Y.1.cls idx Y'.1 ∈ lw_tbl) (hC : ce_CT ρ' Y' (.ref b :: As) σ g (ce_tv P) ce_no) (hst : stk = As.reverse ++ .ref b :: rest) (hn : As.length = n) (hb : ce_kd σ b = ci + 1) (hcn : (vwCl[ci]?).map (fun r => r.1) = some Y'.1.cls) (hR : ce_rz ρ ρ' Y'.2.2.1 kc ks) (hrest : (rest.map fun v => v.category).sum ≤ 8) (kk : ∀ (r : Int32) σ1 g1, P r σ1 g1 → ce_WP ρ Y kc ks (pc + 3) L (.int r :: rest) σ1 g1 Q X) : ce_WP ρ Y kc ks pc L stk σ g Q X := by
  obtain ⟨hR1, hz1, hz2, hk1, hk2⟩ := hR
  refine ce_callV d hY hl hC hst hn hb hcn hR1 hrest (by rw [hz1]; exact hk1) (by rw [hz2]; exact hk2) ?_
  rw [hz1, hz2]
  rintro v σ1 g1 ⟨r, rfl, h1⟩
  exact kk r σ1 g1 h1
theorem ce_cp_ne {g : ce_D} {a0 a n b : Nat} (h : b ≠ a) : ce_cp g a0 a n b = g b := if_neg h
theorem ce_cp_at {g : ce_D} {a0 a n j : Nat} (h : j < n) : ce_cp g a0 a n a j = g a0 j := by
  rw [ce_cp_eq]
  exact if_pos h
theorem ce_up_nE {g : ce_D} {a b k : Nat} {x : Int32} (h : b ≠ a) : ce_up g a k x b = g b := if_neg h
theorem ce_up_j {g : ce_D} {a k j : Nat} {x : Int32} (h : j ≠ k) : ce_up g a k x a j = g a j := by
  rw [ce_up_eq]
  exact if_neg h
end CEN
set_option maxHeartbeats 2000000 in
set_option maxRecDepth 20000 in
theorem m_X0_copyFrom {σ : ce_S} {g : ce_D} (c o : Nat) (K : ce_V) (O : Nat → Int32) (hL : ce_LC σ c) (hO : ce_LC σ o) (hr : ce_rC g o K O) (hk : kv_rk K) (hd : c + 20 ≤ o ∨ o + 20 ≤ c) : ce_CT (ce_r 3) mX0_copyFrom [.ref (c), .ref (o)] σ g (ce_uv σ (fun g' => ce_rC g' c K O ∧ ce_fr c (c + 20) g g')) ce_no := by
  refine ce_enter (by decide) rfl (Nat.le_of_ble_eq_true rfl) (L := [some (.ref (c)), some (.ref (o))]) rfl ?_
  refine ce_aload_n dX0_copyFrom_0 rfl ?_
  refine ce_aload_n dX0_copyFrom_1 rfl ?_
  refine ce_getI dX0_copyFrom_2 fRX0_56 (hO).1 ?_
  refine ce_putI dX0_copyFrom_5 pRX0_56 (hL).1 rfl rfl ?_
  generalize hcg1 : ce_up g (c) 0 (g (o) 0) = cg1
  refine ce_aload_n dX0_copyFrom_8 rfl ?_
  refine ce_aload_n dX0_copyFrom_9 rfl ?_
  refine ce_getI dX0_copyFrom_10 fRX0_60 (hO).1 ?_
  refine ce_putI dX0_copyFrom_13 pRX0_60 (hL).1 rfl rfl ?_
  generalize hcg2 : ce_up cg1 (c) 1 (cg1 (o) 1) = cg2
  refine ce_aload_n dX0_copyFrom_16 rfl ?_
  refine ce_getR dX0_copyFrom_17 fRX0_9 (hO).1 (hO).2.1.1 ?_
  refine ce_aload_n dX0_copyFrom_20 rfl ?_
  refine ce_getR dX0_copyFrom_21 fRX0_9 (hL).1 (hL).2.1.1 ?_
  refine ce_cSNu dX0_copyFrom_24 hX7_copyRow kRX0_135 (m_X7_copyRow (o + 1) (c + 1) 6 ⟨((hO).2.2.2.1.1).1, ((hO).2.2.2.1.1).2⟩ ⟨((hL).2.2.2.1.1).1, ((hL).2.2.2.1.1).2⟩ (by decide)) rfl rfl (by decide) (Nat.le_of_ble_eq_true rfl) (fun cg3 hcg3 => ?_)
  refine ce_aload_n dX0_copyFrom_27 rfl ?_
  refine ce_getR dX0_copyFrom_28 fRX0_15 (hO).1 (hO).2.1.2.1 ?_
  refine ce_aload_n dX0_copyFrom_31 rfl ?_
  refine ce_getR dX0_copyFrom_32 fRX0_15 (hL).1 (hL).2.1.2.1 ?_
  refine ce_cSNu dX0_copyFrom_35 hX7_copyRow kRX0_135 (m_X7_copyRow (o + 2) (c + 2) 6 ⟨((hO).2.2.2.1.2.1).1, ((hO).2.2.2.1.2.1).2⟩ ⟨((hL).2.2.2.1.2.1).1, ((hL).2.2.2.1.2.1).2⟩ (by decide)) rfl rfl (by decide) (Nat.le_of_ble_eq_true rfl) (fun cg4 hcg4 => ?_)
  refine ce_aload_n dX0_copyFrom_38 rfl ?_
  refine ce_getR dX0_copyFrom_39 fRX0_18 (hO).1 (hO).2.1.2.2.1 ?_
  refine ce_aload_n dX0_copyFrom_42 rfl ?_
  refine ce_getR dX0_copyFrom_43 fRX0_18 (hL).1 (hL).2.1.2.2.1 ?_
  refine ce_cSNu dX0_copyFrom_46 hX7_copyRow kRX0_135 (m_X7_copyRow (o + 3) (c + 3) 6 ⟨((hO).2.2.2.1.2.2.1).1, ((hO).2.2.2.1.2.2.1).2⟩ ⟨((hL).2.2.2.1.2.2.1).1, ((hL).2.2.2.1.2.2.1).2⟩ (by decide)) rfl rfl (by decide) (Nat.le_of_ble_eq_true rfl) (fun cg5 hcg5 => ?_)
  refine ce_aload_n dX0_copyFrom_49 rfl ?_
  refine ce_getR dX0_copyFrom_50 fRX0_21 (hO).1 (hO).2.1.2.2.2.1 ?_
  refine ce_aload_n dX0_copyFrom_53 rfl ?_
  refine ce_getR dX0_copyFrom_54 fRX0_21 (hL).1 (hL).2.1.2.2.2.1 ?_
  refine ce_cSNu dX0_copyFrom_57 hX7_copyRow kRX0_135 (m_X7_copyRow (o + 4) (c + 4) 6 ⟨((hO).2.2.2.1.2.2.2.1).1, ((hO).2.2.2.1.2.2.2.1).2⟩ ⟨((hL).2.2.2.1.2.2.2.1).1, ((hL).2.2.2.1.2.2.2.1).2⟩ (by decide)) rfl rfl (by decide) (Nat.le_of_ble_eq_true rfl) (fun cg6 hcg6 => ?_)
  refine ce_aload_n dX0_copyFrom_60 rfl ?_
  refine ce_getR dX0_copyFrom_61 fRX0_24 (hO).1 (hO).2.1.2.2.2.2.1 ?_
  refine ce_aload_n dX0_copyFrom_64 rfl ?_
  refine ce_getR dX0_copyFrom_65 fRX0_24 (hL).1 (hL).2.1.2.2.2.2.1 ?_
  refine ce_cSNu dX0_copyFrom_68 hX7_copyRow kRX0_135 (m_X7_copyRow (o + 5) (c + 5) 6 ⟨((hO).2.2.2.1.2.2.2.2.1).1, ((hO).2.2.2.1.2.2.2.2.1).2⟩ ⟨((hL).2.2.2.1.2.2.2.2.1).1, ((hL).2.2.2.1.2.2.2.2.1).2⟩ (by decide)) rfl rfl (by decide) (Nat.le_of_ble_eq_true rfl) (fun cg7 hcg7 => ?_)
  refine ce_aload_n dX0_copyFrom_71 rfl ?_
  refine ce_getR dX0_copyFrom_72 fRX0_27 (hO).1 (hO).2.1.2.2.2.2.2.1 ?_
  refine ce_aload_n dX0_copyFrom_75 rfl ?_
  refine ce_getR dX0_copyFrom_76 fRX0_27 (hL).1 (hL).2.1.2.2.2.2.2.1 ?_
  refine ce_cSNu dX0_copyFrom_79 hX7_copyRow kRX0_135 (m_X7_copyRow (o + 6) (c + 6) 6 ⟨((hO).2.2.2.1.2.2.2.2.2.1).1, ((hO).2.2.2.1.2.2.2.2.2.1).2⟩ ⟨((hL).2.2.2.1.2.2.2.2.2.1).1, ((hL).2.2.2.1.2.2.2.2.2.1).2⟩ (by decide)) rfl rfl (by decide) (Nat.le_of_ble_eq_true rfl) (fun cg8 hcg8 => ?_)
  refine ce_aload_n dX0_copyFrom_82 rfl ?_
  refine ce_getR dX0_copyFrom_83 fRX0_30 (hO).1 (hO).2.1.2.2.2.2.2.2 ?_
  refine ce_aload_n dX0_copyFrom_86 rfl ?_
  refine ce_getR dX0_copyFrom_87 fRX0_30 (hL).1 (hL).2.1.2.2.2.2.2.2 ?_
  refine ce_cSNu dX0_copyFrom_90 hX7_copyRow kRX0_135 (m_X7_copyRow (o + 7) (c + 7) 6 ⟨((hO).2.2.2.1.2.2.2.2.2.2).1, ((hO).2.2.2.1.2.2.2.2.2.2).2⟩ ⟨((hL).2.2.2.1.2.2.2.2.2.2).1, ((hL).2.2.2.1.2.2.2.2.2.2).2⟩ (by decide)) rfl rfl (by decide) (Nat.le_of_ble_eq_true rfl) (fun cg9 hcg9 => ?_)
  refine ce_aload_n dX0_copyFrom_93 rfl ?_
  refine ce_getR dX0_copyFrom_94 fRX0_36 (hL).1 (hL).2.2.1.1 ?_
  refine ce_aload_n dX0_copyFrom_97 rfl ?_
  refine ce_getR dX0_copyFrom_98 fRX0_36 (hO).1 (hO).2.2.1.1 ?_
  refine ce_cVu dX0_copyFrom_101 hX5_copyFrom kRX0_139 (m_X5_copyFrom (c + 8) (o + 8) (hL).2.2.2.2.1.1 (hO).2.2.2.2.1.1) rfl rfl ((hL).2.2.2.2.1.1).1 rfl (by decide) (Nat.le_of_ble_eq_true rfl) (fun cg10 hcg10 => ?_)
  refine ce_aload_n dX0_copyFrom_104 rfl ?_
  refine ce_getR dX0_copyFrom_105 fRX0_40 (hL).1 (hL).2.2.1.2.1 ?_
  refine ce_aload_n dX0_copyFrom_108 rfl ?_
  refine ce_getR dX0_copyFrom_109 fRX0_40 (hO).1 (hO).2.2.1.2.1 ?_
  refine ce_cVu dX0_copyFrom_112 hX5_copyFrom kRX0_139 (m_X5_copyFrom (c + 10) (o + 10) (hL).2.2.2.2.1.2.1 (hO).2.2.2.2.1.2.1) rfl rfl ((hL).2.2.2.2.1.2.1).1 rfl (by decide) (Nat.le_of_ble_eq_true rfl) (fun cg11 hcg11 => ?_)
  refine ce_aload_n dX0_copyFrom_115 rfl ?_
  refine ce_getR dX0_copyFrom_116 fRX0_43 (hL).1 (hL).2.2.1.2.2.1 ?_
  refine ce_aload_n dX0_copyFrom_119 rfl ?_
  refine ce_getR dX0_copyFrom_120 fRX0_43 (hO).1 (hO).2.2.1.2.2.1 ?_
  refine ce_cVu dX0_copyFrom_123 hX5_copyFrom kRX0_139 (m_X5_copyFrom (c + 12) (o + 12) (hL).2.2.2.2.1.2.2.1 (hO).2.2.2.2.1.2.2.1) rfl rfl ((hL).2.2.2.2.1.2.2.1).1 rfl (by decide) (Nat.le_of_ble_eq_true rfl) (fun cg12 hcg12 => ?_)
  refine ce_aload_n dX0_copyFrom_126 rfl ?_
  refine ce_getR dX0_copyFrom_127 fRX0_46 (hL).1 (hL).2.2.1.2.2.2.1 ?_
  refine ce_aload_n dX0_copyFrom_130 rfl ?_
  refine ce_getR dX0_copyFrom_131 fRX0_46 (hO).1 (hO).2.2.1.2.2.2.1 ?_
  refine ce_cVu dX0_copyFrom_134 hX5_copyFrom kRX0_139 (m_X5_copyFrom (c + 14) (o + 14) (hL).2.2.2.2.1.2.2.2 (hO).2.2.2.2.1.2.2.2) rfl rfl ((hL).2.2.2.2.1.2.2.2).1 rfl (by decide) (Nat.le_of_ble_eq_true rfl) (fun cg13 hcg13 => ?_)
  refine ce_aload_n dX0_copyFrom_137 rfl ?_
  refine ce_getR dX0_copyFrom_138 fRX0_52 (hL).1 (hL).2.2.1.2.2.2.2 ?_
  refine ce_aload_n dX0_copyFrom_141 rfl ?_
  refine ce_getR dX0_copyFrom_142 fRX0_52 (hO).1 (hO).2.2.1.2.2.2.2 ?_
  have hq : ∀ a, (a < c ∨ c + 20 ≤ a) → cg13 a = g a := by intro a ha; rw [hcg13, hcg12, hcg11, hcg10, hcg9, hcg8, hcg7, hcg6, hcg5, hcg4, hcg3, ← hcg2, ← hcg1]; simp (disch := omega) only [ce_cp_ne, ce_up_nE]
  refine ce_cVu dX0_copyFrom_145 hX3_copyFrom kRX0_143 (m_X3_copyFrom (c + 16) (o + 16) K (hL).2.2.2.2.2 (hO).2.2.2.2.2 (hr.k.kp (fun i hi => hq _ (by omega))) hk (by omega)) rfl rfl ((hL).2.2.2.2.2).1 rfl (by decide) (Nat.le_of_ble_eq_true rfl) (fun cg14 hcg14 => ?_)
  have hs : ∀ a, (a < c + 16 ∨ c + 20 ≤ a) → cg14 a = cg13 a := fun a ha => hcg14.2 a (by omega)
  refine ce_vret dX0_copyFrom_148 rfl (by decide) (by decide) ⟨rfl, rfl, ⟨?_, ?_, ?_, ?_, hcg14.1⟩, ?_⟩
  · rw [hs _ (by omega), hcg13, hcg12, hcg11, hcg10, hcg9, hcg8, hcg7, hcg6, hcg5, hcg4, hcg3, ← hcg2, ← hcg1]; simp (disch := omega) only [ce_cp_ne, ce_cp_at, ce_up_nE, ce_up_at, ce_up_j]; exact hr.1
  · rw [hs _ (by omega), hcg13, hcg12, hcg11, hcg10, hcg9, hcg8, hcg7, hcg6, hcg5, hcg4, hcg3, ← hcg2, ← hcg1]; simp (disch := omega) only [ce_cp_ne, ce_cp_at, ce_up_nE, ce_up_at, ce_up_j]; exact hr.2.1
  · intro k h1 h2
    have hk : k = 1 ∨ k = 2 ∨ k = 3 ∨ k = 4 ∨ k = 5 ∨ k = 6 ∨ k = 7 ∨ k = 8 ∨ k = 9 ∨ k = 10 := by omega
    rcases hk with rfl | rfl | rfl | rfl | rfl | rfl | rfl | rfl | rfl | rfl
    · intro j hj
      have hj : j < 6 := hj
      show cg14 (c + 1) j = nI (K 1 j)
      rw [hs _ (by omega), hcg13, hcg12, hcg11, hcg10, hcg9, hcg8, hcg7, hcg6, hcg5, hcg4, hcg3, ← hcg2, ← hcg1]; simp (disch := omega) only [ce_cp_ne, ce_cp_at, ce_up_nE, ce_up_at, ce_up_j]
      exact hr.r 1 (by decide) hj
    · intro j hj
      have hj : j < 6 := hj
      show cg14 (c + 3) j = nI (K 2 j)
      rw [hs _ (by omega), hcg13, hcg12, hcg11, hcg10, hcg9, hcg8, hcg7, hcg6, hcg5, hcg4, hcg3, ← hcg2, ← hcg1]; simp (disch := omega) only [ce_cp_ne, ce_cp_at, ce_up_nE, ce_up_at, ce_up_j]
      exact hr.r 2 (by decide) hj
    · intro j hj
      have hj : j < 6 := hj
      show cg14 (c + 4) j = nI (K 3 j)
      rw [hs _ (by omega), hcg13, hcg12, hcg11, hcg10, hcg9, hcg8, hcg7, hcg6, hcg5, hcg4, hcg3, ← hcg2, ← hcg1]; simp (disch := omega) only [ce_cp_ne, ce_cp_at, ce_up_nE, ce_up_at, ce_up_j]
      exact hr.r 3 (by decide) hj
    · intro j hj
      have hj : j < 6 := hj
      show cg14 (c + 5) j = nI (K 4 j)
      rw [hs _ (by omega), hcg13, hcg12, hcg11, hcg10, hcg9, hcg8, hcg7, hcg6, hcg5, hcg4, hcg3, ← hcg2, ← hcg1]; simp (disch := omega) only [ce_cp_ne, ce_cp_at, ce_up_nE, ce_up_at, ce_up_j]
      exact hr.r 4 (by decide) hj
    · intro j hj
      have hj : j < 6 := hj
      show cg14 (c + 6) j = nI (K 5 j)
      rw [hs _ (by omega), hcg13, hcg12, hcg11, hcg10, hcg9, hcg8, hcg7, hcg6, hcg5, hcg4, hcg3, ← hcg2, ← hcg1]; simp (disch := omega) only [ce_cp_ne, ce_cp_at, ce_up_nE, ce_up_at, ce_up_j]
      exact hr.r 5 (by decide) hj
    · intro j hj
      have hj : j < 6 := hj
      show cg14 (c + 7) j = nI (K 6 j)
      rw [hs _ (by omega), hcg13, hcg12, hcg11, hcg10, hcg9, hcg8, hcg7, hcg6, hcg5, hcg4, hcg3, ← hcg2, ← hcg1]; simp (disch := omega) only [ce_cp_ne, ce_cp_at, ce_up_nE, ce_up_at, ce_up_j]
      exact hr.r 6 (by decide) hj
    · intro j hj
      have hj : j < 36 := hj
      show cg14 (c + 8 + 1) j = nI (K 7 j)
      rw [hs _ (by omega), hcg13, hcg12, hcg11, hcg10, hcg9, hcg8, hcg7, hcg6, hcg5, hcg4, hcg3, ← hcg2, ← hcg1]; simp (disch := omega) only [ce_cp_ne, ce_cp_at, ce_up_nE, ce_up_at, ce_up_j]
      exact hr.t 7 (by decide) hj
    · intro j hj
      have hj : j < 36 := hj
      show cg14 (c + 10 + 1) j = nI (K 8 j)
      rw [hs _ (by omega), hcg13, hcg12, hcg11, hcg10, hcg9, hcg8, hcg7, hcg6, hcg5, hcg4, hcg3, ← hcg2, ← hcg1]; simp (disch := omega) only [ce_cp_ne, ce_cp_at, ce_up_nE, ce_up_at, ce_up_j]
      exact hr.t 8 (by decide) hj
    · intro j hj
      have hj : j < 36 := hj
      show cg14 (c + 12 + 1) j = nI (K 9 j)
      rw [hs _ (by omega), hcg13, hcg12, hcg11, hcg10, hcg9, hcg8, hcg7, hcg6, hcg5, hcg4, hcg3, ← hcg2, ← hcg1]; simp (disch := omega) only [ce_cp_ne, ce_cp_at, ce_up_nE, ce_up_at, ce_up_j]
      exact hr.t 9 (by decide) hj
    · intro j hj
      have hj : j < 36 := hj
      show cg14 (c + 14 + 1) j = nI (K 10 j)
      rw [hs _ (by omega), hcg13, hcg12, hcg11, hcg10, hcg9, hcg8, hcg7, hcg6, hcg5, hcg4, hcg3, ← hcg2, ← hcg1]; simp (disch := omega) only [ce_cp_ne, ce_cp_at, ce_up_nE, ce_up_at, ce_up_j]
      exact hr.t 10 (by decide) hj
  · intro m hm
    rw [hs _ (by omega), hcg13, hcg12, hcg11, hcg10, hcg9, hcg8, hcg7, hcg6, hcg5, hcg4, hcg3, ← hcg2, ← hcg1]; simp (disch := omega) only [ce_cp_ne, ce_cp_at, ce_up_nE, ce_up_at, ce_up_j]
    exact hr.o hm
  · intro a ha
    exact (hs a (by omega)).trans (hq a ha)
