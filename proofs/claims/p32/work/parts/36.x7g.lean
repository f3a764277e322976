def kx_sh (K : ce_V) (w : Nat) : Nat → Option Nat × Nat
  | 0 => (none, 0)
  | n + 1 => if (kx_sh K w n).2 + kv_all K w 8 (n * 6 + w) < K 7 (n * 6 + w) then (some n, K 7 (n * 6 + w) - kv_all K w 8 (n * 6 + w)) else kx_sh K w n
theorem kx_sh_le {K : ce_V} {w : Nat} (h : ∀ i, K 7 i ≤ 60) : ∀ n, (kx_sh K w n).2 ≤ 60
  | 0 => Nat.zero_le _
  | n + 1 => by
    unfold kx_sh
    have := h (n * 6 + w)
    split
    · show K 7 (n * 6 + w) - kv_all K w 8 (n * 6 + w) ≤ 60
      omega
    · exact kx_sh_le h n
theorem kv_all_8 {K : ce_V} (h : kv_cl K) {w : Nat} (hw : w < 6) (m : Nat) : kv_all K w 8 (m * 6 + w) ≤ 60 := by
  unfold kv_all
  rw [kv_up_ne (by decide), kv_end_ne (by decide)]
  exact kv_sh_8 h.od (h.l8 hw) m
set_option maxHeartbeats 2000000 in
set_option maxRecDepth 20000 in
theorem w_X7_shortest {σ : ce_S} {g : ce_D} (a : Nat) (b : Nat → Nat) (S : ks_S) (hX : ce_LX σ a b) (hr : ce_rX g a b S) (ok : ks_ok S) (g0 : ce_D) (w : Nat) (hw6 : w < 6) (hc : ce_rC g (a + 345 + 1) (kv_all (sK S) w) (ko_all (sK S) w (sO S))) (hf : ce_fr a (a + 411) g0 g) : ∀ (n9 : Nat) (i : Nat), sK S 0 0 - i < n9 → i ≤ sK S 0 0 → ce_WP (ce_r 5) mX7_shortest 0 0 62 [some (.ref (a)), some (.int (nI (w))), some (.int (ce_o ((kx_sh (sK S) w i).1))), some (.int (nI ((kx_sh (sK S) w i).2))), some (.int (nI (i))), none] [] σ g (ce_rv σ (fun z9 g1 => z9 = ce_o (kx_sh (sK S) w (sK S 0 0)).1 ∧ ce_rX g1 a b S ∧ ce_fr a (a + 411) g0 g1)) ce_no := by
  intro n9
  induction n9 with
  | zero =>
    intros
    omega
  | succ n9 ih =>
    intro i hm hi
    have hM := ok.1.me
    have hs := kx_sh_le (w := w) ok.1.od i
    have h7 := ok.1.od (i * 6 + w)
    have h8 := kv_all_8 ok.1 hw6 i
    refine ce_iload dX7_shortest_62 rfl ?_
    refine ce_aload_n dX7_shortest_64 rfl ?_
    refine ce_getR dX7_shortest_65 fRX7_10 hX.1 hX.2.1.1 ?_
    refine ce_getIv dX7_shortest_68 fRX7_82 (hX.2.2.1).1 (hr.1).1 ?_
    refine ce_icmp_geN (tgt := 124) dX7_shortest_71 (by decide) rfl rfl (by omega) (by omega) (fun c_71 => ?_) (fun c_71 => ?_)
    · refine ce_iload_n dX7_shortest_124 rfl ?_
      refine ce_iret dX7_shortest_125 rfl rfl (by decide) (by decide) ?_
      exact ⟨_, rfl, rfl, by rw [show i = sK S 0 0 by omega], hr, hf⟩
    · refine ce_aload_n dX7_shortest_74 rfl ?_
      refine ce_getR dX7_shortest_75 fRX7_10 hX.1 hX.2.1.1 ?_
      refine ce_getR dX7_shortest_78 fRX7_228 (hX.2.2.1).1 (hX.2.2.1).2.2.1.1 ?_
      refine ce_iload dX7_shortest_81 rfl ?_
      refine ce_iload_n dX7_shortest_83 rfl ?_
      refine ce_cVp dX7_shortest_84 hX5_of kRX7_217 (n_X5_of (hX.2.2.1).2.2.2.2.1.1 (m := i) (w := w) (by omega) (by omega) (nI ((sK S) 7 (i * 6 + w))) ((hr.1).t 7 (by decide) (by omega))) rfl rfl ((hX.2.2.1).2.2.2.2.1.1).1 rfl (by decide) (Nat.le_of_ble_eq_true rfl) ?_
      refine ce_aload_n dX7_shortest_87 rfl ?_
      refine ce_getR dX7_shortest_88 fRX7_33 hX.1 hX.2.1.2.2.2.1 ?_
      refine ce_getR dX7_shortest_91 fRX7_210 hX.2.2.2.2.1.1 hX.2.2.2.2.1.2.1 ?_
      refine ce_getR dX7_shortest_94 fRX7_213 (hX.2.2.2.2.1.2.2).1 (hX.2.2.2.2.1.2.2).2.2.1.2.1 ?_
      refine ce_iload dX7_shortest_97 rfl ?_
      refine ce_iload_n dX7_shortest_99 rfl ?_
      refine ce_cVp dX7_shortest_100 hX5_of kRX7_217 (n_X5_of (hX.2.2.2.2.1.2.2).2.2.2.2.1.2.1 (m := i) (w := w) (by omega) (by omega) (nI ((kv_all (sK S) w) 8 (i * 6 + w))) ((hc).t 8 (by decide) (by omega))) rfl rfl ((hX.2.2.2.2.1.2.2).2.2.2.2.1.2.1).1 rfl (by decide) (Nat.le_of_ble_eq_true rfl) ?_
      refine ce_isub (z := nI (sK S 7 (i * 6 + w)) - nI (kv_all (sK S) w 8 (i * 6 + w))) dX7_shortest_103 rfl ?_
      refine ce_istore dX7_shortest_104 (Nat.le_of_ble_eq_true rfl) rfl ?_
      refine ce_iload dX7_shortest_106 rfl ?_
      refine ce_iload_n dX7_shortest_108 rfl ?_
      refine ce_icmp_leI (p := (((sK S 7 (i * 6 + w) : Nat) : Int) - ((kv_all (sK S) w 8 (i * 6 + w) : Nat) : Int))) (q := (((kx_sh (sK S) w i).2 : Nat) : Int)) (tgt := 118) dX7_shortest_109 (by decide) (pk_sub_toInt (by omega) (by omega)) (nI_toInt (by omega)) (fun c_109 => ?_) (fun c_109 => ?_)
      · refine ce_iinc (v := nI (i + 1)) dX7_shortest_118 rfl (ce_inc1 _) (Nat.le_of_ble_eq_true rfl) rfl ?_
        refine ce_goto (tgt := 62) dX7_shortest_121 (by decide) ?_
        refine ce_drop (L' := [some (.ref (a)), some (.int (nI (w))), some (.int (ce_o ((kx_sh (sK S) w i).1))), some (.int (nI ((kx_sh (sK S) w i).2))), some (.int (nI (i + 1))), none]) (ce_le_s rfl (ce_le_s rfl (ce_le_s rfl (ce_le_s rfl (ce_le_s rfl (ce_le_n ce_le_e)))))) ?_
        have e9 : kx_sh (sK S) w (i + 1) = kx_sh (sK S) w i := if_neg (by omega)
        have e8 := ih (i + 1) (by omega) (by omega)
        rw [e9] at e8
        exact e8
      · rw [pk_sub (a := sK S 7 (i * 6 + w)) (b := kv_all (sK S) w 8 (i * 6 + w)) (by omega)]
        refine ce_iload dX7_shortest_112 rfl ?_
        refine ce_istore_n dX7_shortest_114 (Nat.le_of_ble_eq_true rfl) rfl ?_
        refine ce_iload dX7_shortest_115 rfl ?_
        refine ce_istore_n dX7_shortest_117 (Nat.le_of_ble_eq_true rfl) rfl ?_
        refine ce_iinc (v := nI (i + 1)) dX7_shortest_118 rfl (ce_inc1 _) (Nat.le_of_ble_eq_true rfl) rfl ?_
        refine ce_goto (tgt := 62) dX7_shortest_121 (by decide) ?_
        refine ce_drop (L' := [some (.ref (a)), some (.int (nI (w))), some (.int (nI (i))), some (.int (nI (sK S 7 (i * 6 + w) - kv_all (sK S) w 8 (i * 6 + w)))), some (.int (nI (i + 1))), none]) (ce_le_s rfl (ce_le_s rfl (ce_le_s rfl (ce_le_s rfl (ce_le_s rfl (ce_le_n ce_le_e)))))) ?_
        have e9 : kx_sh (sK S) w (i + 1) = (some i, sK S 7 (i * 6 + w) - kv_all (sK S) w 8 (i * 6 + w)) := if_pos (by omega)
        have e8 := ih (i + 1) (by omega) (by omega)
        rw [e9] at e8
        exact e8
set_option maxHeartbeats 2000000 in
set_option maxRecDepth 20000 in
theorem m_X7_shortest_ok {σ : ce_S} {g : ce_D} (a : Nat) (b : Nat → Nat) (S : ks_S) (hX : ce_LX σ a b) (hr : ce_rX g a b S) (ok : ks_ok S) (w : Nat) (hw : w < sK S 0 1) (h5 : sK S 5 w = 0) (hf : kv_allF (sK S) (nI w) = 0) : ce_CT (ce_r 5) mX7_shortest [.ref (a), .int (nI (w))] σ g (ce_rv σ (fun z9 g1 => z9 = ce_o (kx_sh (sK S) w (sK S 0 0)).1 ∧ ce_rX g1 a b S ∧ ce_fr a (a + 411) g g1)) ce_no := by
  have hM := ok.1.me
  have hW := ok.1.wi
  have hst := ok.1.st w
  refine ce_enter (by decide) rfl (Nat.le_of_ble_eq_true rfl) (L := [some (.ref (a)), some (.int (nI (w))), none, none, none, none]) rfl ?_
  refine ce_aload_n dX7_shortest_0 rfl ?_
  refine ce_getR dX7_shortest_1 fRX7_10 hX.1 hX.2.1.1 ?_
  refine ce_iload_n dX7_shortest_4 rfl ?_
  refine ce_cVp dX7_shortest_5 hX0_knowsWine kRX7_101 (m_X0_knowsWine (a + 1) (sK S) (sO S) hX.2.2.1 hr.1 ok.1 (nI (w))) rfl rfl (hX.2.2.1).1 rfl (by decide) (Nat.le_of_ble_eq_true rfl) ?_
  refine ce_if_eqB (tgt := 15) dX7_shortest_8 (by decide) rfl (fun c_8 => ?_) (fun c_8 => ?_)
  · exact absurd ((ce_in_nI (by omega)).mpr hw) c_8
  · refine ce_iconst (v := nI (0)) dX7_shortest_11 (by decide) ?_
    refine ce_goto (tgt := 16) dX7_shortest_12 (by decide) ?_
    refine ce_cSq dX7_shortest_16 hX7_check kRX7_56 (m_X7_check0) rfl rfl (by decide) (Nat.le_of_ble_eq_true rfl) ?_
    refine ce_aload_n dX7_shortest_19 rfl ?_
    refine ce_getR dX7_shortest_20 fRX7_10 hX.1 hX.2.1.1 ?_
    refine ce_getR dX7_shortest_23 fRX7_200 (hX.2.2.1).1 (hX.2.2.1).2.1.2.2.2.2.2.1 ?_
    refine ce_iload_n dX7_shortest_26 rfl ?_
    refine ce_ialdv dX7_shortest_27 ((hX.2.2.1).2.2.2.1.2.2.2.2.2.1).1 rfl ((hX.2.2.1).2.2.2.1.2.2.2.2.2.1).2 (by omega) (by decide) ((hr.1).r 5 (by decide) (by omega)) ?_
    refine ce_if_eqN (tgt := 34) dX7_shortest_28 (by decide) rfl (by omega) (fun c_28 => ?_) (fun c_28 => ?_)
    · refine ce_aload_n dX7_shortest_34 rfl ?_
      refine ce_getR dX7_shortest_35 fRX7_33 hX.1 hX.2.1.2.2.2.1 ?_
      refine ce_aload_n dX7_shortest_38 rfl ?_
      refine ce_getR dX7_shortest_39 fRX7_10 hX.1 hX.2.1.1 ?_
      refine ce_cVu dX7_shortest_42 hX4_begin kRX7_204 (m_X4_begin (a + 345) (a + 1) (sK S) (sO S) hX.2.2.2.2.1 hX.2.2.1 hr.1 ok.1.rk (by omega)) rfl rfl hX.2.2.2.2.1.1 rfl (by decide) (Nat.le_of_ble_eq_true rfl) (fun cg1 hcg1 => ?_)
      have xcg1 := rX_reh hr hX.2.2.2.1.2.2.2 hcg1.2
      refine ce_aload_n dX7_shortest_45 rfl ?_
      refine ce_getR dX7_shortest_46 fRX7_33 hX.1 hX.2.1.2.2.2.1 ?_
      refine ce_iload_n dX7_shortest_49 rfl ?_
      refine ce_cVr dX7_shortest_50 hX4_allocates kRX7_207 (m_X4_allocates (a + 345) (sK S) (sO S) hX.2.2.2.2.1 hcg1.1 ok.1 w (by omega) 0 hf (by decide)) rfl rfl hX.2.2.2.2.1.1 rfl (by decide) (Nat.le_of_ble_eq_true rfl) (fun rcg2 cg2 hcg2 => ?_)
      have ycg2 := (hcg1.2).tr hcg2.2.2
      have xcg2 := rX_reh hr hX.2.2.2.1.2.2.2 ycg2
      refine ce_pop dX7_shortest_53 rfl ?_
      refine ce_ldc dX7_shortest_54 kRX7_71 ?_
      refine ce_istore_n dX7_shortest_56 (Nat.le_of_ble_eq_true rfl) rfl ?_
      refine ce_iconst (v := nI (0)) dX7_shortest_57 (by decide) ?_
      refine ce_istore_n dX7_shortest_58 (Nat.le_of_ble_eq_true rfl) rfl ?_
      refine ce_iconst (v := nI (0)) dX7_shortest_59 (by decide) ?_
      refine ce_istore dX7_shortest_60 (Nat.le_of_ble_eq_true rfl) rfl ?_
      exact w_X7_shortest a b S hX xcg2 ok g w (by omega) hcg2.2.1 (fun x hx => ycg2 x (by omega)) (sK S 0 0 + 1) 0 (by omega) (by omega)
    · omega
set_option maxHeartbeats 2000000 in
set_option maxRecDepth 20000 in
theorem m_X7_shortest_ok2 {σ : ce_S} {g : ce_D} (a : Nat) (b : Nat → Nat) (S : ks_S) (hX : ce_LX σ a b) (hr : ce_rX g a b S) (ok : ks_ok S) (w : Nat) (hw : w < sK S 0 1) (h5 : sK S 5 w ≠ 0) : ce_CT (ce_r 5) mX7_shortest [.ref (a), .int (nI (w))] σ g (ce_pv (-99999) σ g) ce_no := by
  have hM := ok.1.me
  have hW := ok.1.wi
  have hst := ok.1.st w
  refine ce_enter (by decide) rfl (Nat.le_of_ble_eq_true rfl) (L := [some (.ref (a)), some (.int (nI (w))), none, none, none, none]) rfl ?_
  refine ce_aload_n dX7_shortest_0 rfl ?_
  refine ce_getR dX7_shortest_1 fRX7_10 hX.1 hX.2.1.1 ?_
  refine ce_iload_n dX7_shortest_4 rfl ?_
  refine ce_cVp dX7_shortest_5 hX0_knowsWine kRX7_101 (m_X0_knowsWine (a + 1) (sK S) (sO S) hX.2.2.1 hr.1 ok.1 (nI (w))) rfl rfl (hX.2.2.1).1 rfl (by decide) (Nat.le_of_ble_eq_true rfl) ?_
  refine ce_if_eqB (tgt := 15) dX7_shortest_8 (by decide) rfl (fun c_8 => ?_) (fun c_8 => ?_)
  · exact absurd ((ce_in_nI (by omega)).mpr hw) c_8
  · refine ce_iconst (v := nI (0)) dX7_shortest_11 (by decide) ?_
    refine ce_goto (tgt := 16) dX7_shortest_12 (by decide) ?_
    refine ce_cSq dX7_shortest_16 hX7_check kRX7_56 (m_X7_check0) rfl rfl (by decide) (Nat.le_of_ble_eq_true rfl) ?_
    refine ce_aload_n dX7_shortest_19 rfl ?_
    refine ce_getR dX7_shortest_20 fRX7_10 hX.1 hX.2.1.1 ?_
    refine ce_getR dX7_shortest_23 fRX7_200 (hX.2.2.1).1 (hX.2.2.1).2.1.2.2.2.2.2.1 ?_
    refine ce_iload_n dX7_shortest_26 rfl ?_
    refine ce_ialdv dX7_shortest_27 ((hX.2.2.1).2.2.2.1.2.2.2.2.2.1).1 rfl ((hX.2.2.1).2.2.2.1.2.2.2.2.2.1).2 (by omega) (by decide) ((hr.1).r 5 (by decide) (by omega)) ?_
    refine ce_if_eqN (tgt := 34) dX7_shortest_28 (by decide) rfl (by omega) (fun c_28 => ?_) (fun c_28 => ?_)
    · omega
    · refine ce_ldc dX7_shortest_31 kRX7_71 ?_
      refine ce_iret dX7_shortest_33 rfl rfl (by decide) (by decide) ?_
      exact ⟨rfl, rfl, rfl⟩
set_option maxHeartbeats 2000000 in
set_option maxRecDepth 20000 in
theorem m_X7_shortest_no {σ : ce_S} {g : ce_D} (a : Nat) (b : Nat → Nat) (S : ks_S) (hX : ce_LX σ a b) (hr : ce_rX g a b S) (ok : ks_ok S) (x : Int32) (hx : ¬ ce_in x (sK S 0 1)) : ce_CT (ce_rx 2) mX7_shortest [.ref (a), .int (x)] σ g (fun _ _ _ => False) (kx_X 1 σ g) := by
  refine ce_enter (by decide) rfl (Nat.le_of_ble_eq_true rfl) (L := [some (.ref (a)), some (.int (x)), none, none, none, none]) rfl ?_
  refine ce_aload_n dX7_shortest_0 rfl ?_
  refine ce_getR dX7_shortest_1 fRX7_10 hX.1 hX.2.1.1 ?_
  refine ce_iload_n dX7_shortest_4 rfl ?_
  refine ce_cVp dX7_shortest_5 hX0_knowsWine kRX7_101 (m_X0_knowsWine (a + 1) (sK S) (sO S) hX.2.2.1 hr.1 ok.1 (x)) rfl rfl (hX.2.2.1).1 rfl (by decide) (Nat.le_of_ble_eq_true rfl) ?_
  refine ce_if_eqB (tgt := 15) dX7_shortest_8 (by decide) rfl (fun c_8 => ?_) (fun c_8 => ?_)
  · refine ce_iconst (v := nI (1)) dX7_shortest_15 (by decide) ?_
    exact ce_callSX dX7_shortest_16 hX7_check kRX7_56 (m_X7_checkX 1 (by decide) (by decide)) rfl rfl (by decide) (by decide) (by decide) (by decide) (fun v σ1 g1 h => h.elim) (fun E σ1 g1 h => ce_xout rfl (by decide) (by decide) h)
  · exact absurd c_8 hx
