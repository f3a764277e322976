set_option maxHeartbeats 2000000 in
set_option maxRecDepth 20000 in
theorem w_X6_read {σ : ce_S} {g0 : ce_D} (a : Nat) (b : Nat → Nat) (hX : ce_LX σ a b) (T : Nat → Nat) (len : Nat) (h120 : len ≤ 120) (hch : ∀ i, i < len → g0 (a + 22) i = nI (T i)) (hT : ∀ i, i < len → T i < 256) : ∀ (n9 : Nat) (g : ce_D) (t p : Nat) (K : ce_V), len + 1 - p < n9 → (121 ≤ t + p ∧ t ≤ 120) → p ≤ len → kv_cl K → kx_rt g0 g a len p K → ce_WP (ce_r 4) mX6_read 0 0 46 [some (.ref (a + 21)), some (.int (nI (120 - t)))] [] σ g (ce_rv σ (fun z9 g1 => z9 = ce_o (kx_loop T len (t) (K) (p)).1 ∧ ∃ q, kx_rt g0 g1 a len q (kx_loop T len (t) (K) (p)).2)) ce_no := by
  intro n9
  induction n9 with
  | zero =>
    intros
    omega
  | succ n9 ih =>
    intro g t p K hm htp hp hk hR
    refine ce_iload_n dX6_read_46 rfl ?_
    refine ce_bipush (v := nI (120)) dX6_read_47 (by decide) ?_
    refine ce_icmp_geN (tgt := 81) dX6_read_49 (by decide) rfl rfl (by omega) (by omega) (fun c_49 => ?_) (fun c_49 => ?_)
    · refine ce_ldc dX6_read_81 kRX6_40 ?_
      refine ce_iret dX6_read_83 rfl rfl (by decide) (by decide) ?_
      rw [kx_loop_n (by omega)]
      exact ⟨_, rfl, rfl, by first | rfl | decide, p, hR⟩
    · refine ce_aload_n dX6_read_52 rfl ?_
      refine ce_getIv dX6_read_53 fRX6_33 hX.2.2.2.2.2.1.1 (hR).2.1 ?_
      refine ce_aload_n dX6_read_56 rfl ?_
      refine ce_getIv dX6_read_57 fRX6_25 hX.2.2.2.2.2.1.1 (hR).1 ?_
      refine ce_icmp_geN (tgt := 81) dX6_read_60 (by decide) rfl rfl (by omega) (by omega) (fun c_60 => ?_) (fun c_60 => ?_)
      · refine ce_ldc dX6_read_81 kRX6_40 ?_
        refine ce_iret dX6_read_83 rfl rfl (by decide) (by decide) ?_
        rw [kx_loop_n (by omega)]
        exact ⟨_, rfl, rfl, by first | rfl | decide, p, hR⟩
      · refine ce_aload_n dX6_read_63 rfl ?_
        refine ce_cVr dX6_read_64 hX6_readPart kRX6_36 (m_X6_readPart a b hX T len p K h120 hch hT hR hk (by omega)) rfl rfl hX.2.2.2.2.2.1.1 rfl (by decide) (Nat.le_of_ble_eq_true rfl) (fun rcg1 cg1 hcg1 => ?_)
        obtain ⟨ecg1, fcg1⟩ := hcg1
        subst ecg1
        refine ce_if_neB (tgt := 75) dX6_read_67 (by decide) rfl (fun c_67 => ?_) (fun c_67 => ?_)
        · refine ce_iinc (v := nI (120 - (t - 1))) dX6_read_75 rfl (by rw [ce_inc1]; exact congrArg nI (by omega)) (Nat.le_of_ble_eq_true rfl) rfl ?_
          refine ce_goto (tgt := 46) dX6_read_78 (by decide) ?_
          have o9 := kx_part_ok (T := T) hk (show p < len by omega)
          rw [kx_loop_y (t := t) (by omega) (by omega) c_67]
          exact ih _ (t - 1) (kx_part T len K p).2.2 (kx_part T len K p).2.1 (by have := o9.2.2.2 c_67; omega) (by have := o9.2.2.2 c_67; omega) o9.2.2.1 o9.1 fcg1
        · refine ce_aload_n dX6_read_70 rfl ?_
          refine ce_getIv dX6_read_71 fRX6_33 hX.2.2.2.2.2.1.1 (fcg1).2.1 ?_
          refine ce_iret dX6_read_74 rfl rfl (by decide) (by decide) ?_
          rw [kx_loop_x (t := t) (by omega) (by omega) c_67]
          exact ⟨_, rfl, rfl, by first | exact fcg1.2.1 | rfl, _, fcg1⟩
set_option maxHeartbeats 2000000 in
set_option maxRecDepth 20000 in
theorem m_X6_read {σ : ce_S} {g : ce_D} (a : Nat) (b : Nat → Nat) (hX : ce_LX σ a b) (T : Nat → Nat) (len : Nat) (h120 : len ≤ 120) (hl : g (a + 21) 1 = nI len) (hch : ∀ i, i < len → g (a + 22) i = nI (T i)) (hT : ∀ i, i < len → T i < 256) (hn : ce_rC g (a + 43) kv_0 (fun _ => 0)) : ce_CT (ce_r 4) mX6_read [.ref (a + 21)] σ g (ce_rv σ (fun z9 g1 => z9 = ce_o (kx_read T len).1 ∧ ∃ q, kx_rt g g1 a len q (kx_read T len).2)) ce_no := by
  refine ce_enter (by decide) rfl (Nat.le_of_ble_eq_true rfl) (L := [some (.ref (a + 21)), none]) rfl ?_
  refine ce_aload_n dX6_read_0 rfl ?_
  refine ce_getR dX6_read_1 fRX6_18 hX.2.2.2.2.2.1.1 hX.2.2.2.2.2.1.2.1.2.1 ?_
  refine ce_aload_n dX6_read_4 rfl ?_
  refine ce_getR dX6_read_5 fRX6_22 hX.2.2.2.2.2.1.1 hX.2.2.2.2.2.1.2.1.2.2 ?_
  refine ce_cVu dX6_read_8 hX0_copyFrom kRX6_29 (m_X0_copyFrom (a + 23) (a + 43) kv_0 (fun _ => 0) hX.2.2.2.2.2.1.2.2.2.1 hX.2.2.2.2.2.1.2.2.2.2 hn cl_0.rk (by omega)) rfl rfl (hX.2.2.2.2.2.1.2.2.2.1).1 rfl (by decide) (Nat.le_of_ble_eq_true rfl) (fun cg1 hcg1 => ?_)
  refine ce_aload_n dX6_read_11 rfl ?_
  refine ce_iconst (v := nI (0)) dX6_read_12 (by decide) ?_
  refine ce_putI dX6_read_13 pRX6_33 hX.2.2.2.2.2.1.1 rfl rfl ?_
  generalize hcg2 : ce_up cg1 (a + 21) 2 (nI (0)) = cg2
  have qcg2 : kx_rt g cg2 a len 0 kv_0 := by
    subst hcg2
    refine ⟨by rw [ce_up_j (by decide), hcg1.2 _ (by omega)]; exact hl, ce_up_at _ _ _ _, hcg1.1.kp (fun i hi => ce_up_ne _ _ _ (by omega)), fun x h1 h2 => ?_⟩
    rw [ce_up_ne _ _ _ h1]; exact hcg1.2 x (by omega)
  refine ce_aload_n dX6_read_16 rfl ?_
  refine ce_getIv dX6_read_17 fRX6_25 hX.2.2.2.2.2.1.1 (qcg2).1 ?_
  refine ce_if_eqN (tgt := 34) dX6_read_20 (by decide) rfl (by omega) (fun c_20 => ?_) (fun c_20 => ?_)
  · refine ce_aload_n dX6_read_34 rfl ?_
    refine ce_getIv dX6_read_35 fRX6_33 hX.2.2.2.2.2.1.1 (qcg2).2.1 ?_
    refine ce_iret dX6_read_38 rfl rfl (by decide) (by decide) ?_
    have e : kx_read T len = (some 0, kv_0) := if_pos (by omega)
    rw [e]
    exact ⟨_, rfl, rfl, rfl, 0, qcg2⟩
  · have hT0 := hT 0 (by omega)
    refine ce_aload_n dX6_read_23 rfl ?_
    refine ce_getR dX6_read_24 fRX6_9 hX.2.2.2.2.2.1.1 hX.2.2.2.2.2.1.2.1.1 ?_
    refine ce_iconst (v := nI (0)) dX6_read_27 (by decide) ?_
    refine ce_caldv dX6_read_28 (hX.2.2.2.2.2.1.2.2.1).1 rfl (hX.2.2.2.2.2.1.2.2.1).2 (by omega) (by decide) (kx_rt_ch qcg2 hch _ (by omega)) ?_
    refine ce_bipush (v := nI (67)) dX6_read_29 (by decide) ?_
    refine ce_icmp_eqN (tgt := 39) dX6_read_31 (by decide) rfl rfl (by omega) (by omega) (fun c_31 => ?_) (fun c_31 => ?_)
    · refine ce_aload_n dX6_read_39 rfl ?_
      refine ce_iconst (v := nI (1)) dX6_read_40 (by decide) ?_
      refine ce_putI dX6_read_41 pRX6_33 hX.2.2.2.2.2.1.1 rfl rfl ?_
      generalize hcg3 : ce_up cg2 (a + 21) 2 (nI (1)) = cg3
      have qcg3 := kx_rt_put qcg2 (1) hcg3
      refine ce_iconst (v := nI (0)) dX6_read_44 (by decide) ?_
      refine ce_istore_n dX6_read_45 (Nat.le_of_ble_eq_true rfl) rfl ?_
      have e : kx_read T len = kx_loop T len 120 kv_0 1 := if_neg (by omega)
      rw [e]
      exact w_X6_read a b hX T len h120 hch hT (len + 1) cg3 120 1 kv_0 (by omega) (by omega) (by omega) cl_0 qcg3
    · refine ce_aload_n dX6_read_34 rfl ?_
      refine ce_getIv dX6_read_35 fRX6_33 hX.2.2.2.2.2.1.1 (qcg2).2.1 ?_
      refine ce_iret dX6_read_38 rfl rfl (by decide) (by decide) ?_
      have e : kx_read T len = (some 0, kv_0) := if_pos (by omega)
      rw [e]
      exact ⟨_, rfl, rfl, rfl, 0, qcg2⟩
/-- the reader was at work: the object holds what it held -/
theorem rX_read {g g1 : ce_D} {a q : Nat} {b : Nat → Nat} {S : ks_S} {K : ce_V} (hr : ce_rX g a b S) (hb : ce_bk (a + 63) b) (h : kx_rt g g1 a (sl S) q K) : ce_rX g1 a b S ∧ ce_fr a (a + 411) g g1 := by
  have hq := h.2.2.2
  have hr2 := hr
  obtain ⟨r1, r2, ⟨r3, r4⟩, r5, r6, r7, r8⟩ := hr
  refine ⟨⟨r1.kp (fun i hi => hq _ (by omega) (by omega)), ⟨r2.1, ?_, fun i hi => ?_⟩, ⟨fun s hs => ?_, fun s hs hF => ?_⟩, r5, h.1, fun i hi => ?_, ?_⟩, fun x hx => hq x (by omega) (by omega)⟩
  · rw [hq _ (by omega) (by omega)]; exact r2.2.1
  · have h14 : sn S ≤ 14 := r2.1
    have hi2 : i < sn S := hi
    have := hb.in (i := i) (by omega)
    exact (r2.2.2 i hi).kp (fun j hj => hq _ (by omega) (by omega))
  · rw [hq _ (by omega) (by omega)]; exact r3 s hs
  · exact (r4 s hs hF).kp (fun i hi => hq _ (by omega) (by omega))
  · rw [hq _ (by omega) (by omega)]; exact r7 i hi
  · exact r8.kp (fun i hi => hq _ (by omega) (by omega))
/-- the club that was read -/
def ks_load (S : ks_S) (K : ce_V) : ks_S := ((K, fun _ => 0), (0, sKH S, sOH S), ((fun _ => false, sKS S, sOS S), (sl S, sT S)))
theorem ks_ok.load {S : ks_S} (h : ks_ok S) {K : ce_V} (hk : kv_cl K) : ks_ok (ks_load S K) := ⟨hk, fun i hi => by have : i < 0 := hi; omega, fun s hs hF => (by cases hF), h.2.2.2⟩
theorem rX_load {g g1 g2 g3 g4 g5 : ce_D} {a q : Nat} {b : Nat → Nat} {S : ks_S} {K : ce_V} (hr : ce_rX g a b S) (hb : ce_bk (a + 63) b) (h : kx_rt g g1 a (sl S) q K) (h2 : ce_rC g2 (a + 1) K (fun _ => 0)) (f2 : ce_fr (a + 1) (a + 1 + 20) g1 g2) (e3 : g3 = ce_up g2 (a + 63) 1 (nI 0)) (e4 : ce_up g3 (a + 410) 0 (nI 0) = g4) (e5 : ce_up g4 (a + 410) 1 (nI 0) = g5) : ce_rX g5 a b (ks_load S K) ∧ ce_fr a (a + 411) g g5 := by
  obtain ⟨x1, x2⟩ := rX_read hr hb h
  have hq : ∀ x, x ≠ a + 410 → x ≠ a + 63 → (x < a + 1 ∨ a + 21 ≤ x) → g5 x = g1 x := fun x n1 n2 n3 => by
    rw [← e5, ce_up_ne _ _ _ n1, ← e4, ce_up_ne _ _ _ n1, e3, ce_up_ne _ _ _ n2]; exact f2 x (by omega)
  obtain ⟨r1, r2, ⟨r3, r4⟩, r5, r6, r7, r8⟩ := x1
  refine ⟨⟨h2.kp (fun i hi => ?_), ⟨Nat.zero_le _, ?_, fun i hi => by have : i < 0 := hi; omega⟩, ⟨fun s hs => ?_, fun s hs hF => (by cases hF)⟩, r5, ?_, fun i hi => ?_, ?_⟩, fun x hx => (hq x (by omega) (by omega) (by omega)).trans (x2 x (by omega))⟩
  · rw [← e5, ce_up_ne _ _ _ (by omega), ← e4, ce_up_ne _ _ _ (by omega), e3, ce_up_ne _ _ _ (by omega)]
  · rw [← e5, ce_up_ne _ _ _ (by omega), ← e4, ce_up_ne _ _ _ (by omega), e3]; exact ce_up_at _ _ _ _
  · rw [← e5, ce_up_eq]
    unfold upd
    by_cases e : s = 1
    · rw [if_pos e]; rfl
    · rw [if_neg e, ← e4, ce_up_eq]
      unfold upd
      rw [if_pos (by omega)]; rfl
  · rw [hq _ (by omega) (by omega) (by omega)]; exact r6
  · rw [hq _ (by omega) (by omega) (by omega)]; exact r7 i hi
  · exact r8.kp (fun i hi => hq _ (by omega) (by omega) (by omega))
set_option maxHeartbeats 2000000 in
set_option maxRecDepth 20000 in
theorem m_X7_errorPosition_ok {σ : ce_S} {g : ce_D} (a : Nat) (b : Nat → Nat) (S : ks_S) (hX : ce_LX σ a b) (hr : ce_rX g a b S) (ok : ks_ok S) : ce_CT (ce_r 5) mX7_errorPosition [.ref (a)] σ g (ce_rv σ (fun z9 g1 => z9 = ce_o (kx_read (sT S) (sl S)).1 ∧ ce_rX g1 a b S ∧ ce_fr a (a + 411) g g1)) ce_no := by
  refine ce_enter (by decide) rfl (Nat.le_of_ble_eq_true rfl) (L := [some (.ref (a))]) rfl ?_
  refine ce_aload_n dX7_errorPosition_0 rfl ?_
  refine ce_getR dX7_errorPosition_1 fRX7_19 hX.1 hX.2.1.2.1 ?_
  refine ce_cVr dX7_errorPosition_4 hX6_read kRX7_68 (m_X6_read a b hX (sT S) (sl S) hr.2.2.2.1 hr.2.2.2.2.1 hr.2.2.2.2.2.1 ok.2.2.2 hr.2.2.2.2.2.2) rfl rfl hX.2.2.2.2.2.1.1 rfl (by decide) (Nat.le_of_ble_eq_true rfl) (fun rcg1 cg1 hcg1 => ?_)
  refine ce_iret dX7_errorPosition_7 rfl rfl (by decide) (by decide) ?_
  obtain ⟨e9, q9, h9⟩ := hcg1
  have x9 := rX_read hr hX.2.2.2.1.2.2.2 h9
  exact ⟨_, rfl, rfl, e9, x9.1, x9.2⟩
set_option maxHeartbeats 2000000 in
set_option maxRecDepth 20000 in
theorem m_X7_load_ok {σ : ce_S} {g : ce_D} (a : Nat) (b : Nat → Nat) (S : ks_S) (hX : ce_LX σ a b) (hr : ce_rX g a b S) (ok : ks_ok S) (hp : (kx_read (sT S) (sl S)).1 = none) : ce_CT (ce_r 5) mX7_load [.ref (a)] σ g (ce_rv σ (fun z9 g1 => z9 = nI ((kx_read (sT S) (sl S)).2 0 0) ∧ ce_rX g1 a b (ks_load S (kx_read (sT S) (sl S)).2) ∧ ce_fr a (a + 411) g g1)) ce_no := by
  refine ce_enter (by decide) rfl (Nat.le_of_ble_eq_true rfl) (L := [some (.ref (a)), none]) rfl ?_
  refine ce_aload_n dX7_load_0 rfl ?_
  refine ce_getR dX7_load_1 fRX7_19 hX.1 hX.2.1.2.1 ?_
  refine ce_cVr dX7_load_4 hX6_read kRX7_68 (m_X6_read a b hX (sT S) (sl S) hr.2.2.2.1 hr.2.2.2.2.1 hr.2.2.2.2.2.1 ok.2.2.2 hr.2.2.2.2.2.2) rfl rfl hX.2.2.2.2.2.1.1 rfl (by decide) (Nat.le_of_ble_eq_true rfl) (fun rcg1 cg1 hcg1 => ?_)
  obtain ⟨ecg1, ucg1, fcg1⟩ := hcg1
  rw [hp] at ecg1
  have ecg1 : rcg1 = -99999 := ecg1
  subst ecg1
  refine ce_ldc dX7_load_7 kRX7_71 ?_
  refine ce_icmp_neI (p := (-99999)) (q := (-99999)) (tgt := 16) dX7_load_9 (by decide) (by decide) (by decide) (fun c_9 => ?_) (fun c_9 => ?_)
  · omega
  · refine ce_iconst (v := nI (0)) dX7_load_12 (by decide) ?_
    refine ce_goto (tgt := 17) dX7_load_13 (by decide) ?_
    refine ce_cSq dX7_load_17 hX7_check kRX7_56 (m_X7_check0) rfl rfl (by decide) (Nat.le_of_ble_eq_true rfl) ?_
    refine ce_aload_n dX7_load_20 rfl ?_
    refine ce_getR dX7_load_21 fRX7_10 hX.1 hX.2.1.1 ?_
    refine ce_aload_n dX7_load_24 rfl ?_
    refine ce_getR dX7_load_25 fRX7_19 hX.1 hX.2.1.2.1 ?_
    refine ce_getR dX7_load_28 fRX7_72 hX.2.2.2.2.2.1.1 hX.2.2.2.2.2.1.2.1.2.1 ?_
    refine ce_cVu dX7_load_31 hX0_copyFrom kRX7_75 (m_X0_copyFrom (a + 1) (a + 23) (kx_read (sT S) (sl S)).2 (fun _ => 0) hX.2.2.1 hX.2.2.2.2.2.1.2.2.2.1 fcg1.2.2.1 kx_read_cl.rk (by omega)) rfl rfl (hX.2.2.1).1 rfl (by decide) (Nat.le_of_ble_eq_true rfl) (fun cg2 hcg2 => ?_)
    refine ce_aload_n dX7_load_34 rfl ?_
    refine ce_getR dX7_load_35 fRX7_26 hX.1 hX.2.1.2.2.1 ?_
    refine ce_cVu dX7_load_38 hX1_forgetAll kRX7_79 (m_X1_forgetAll (a + 63) b hX.2.2.2.1) rfl rfl hX.2.2.2.1.1.1 rfl (by decide) (Nat.le_of_ble_eq_true rfl) (fun cg3 hcg3 => ?_)
    refine ce_iconst (v := nI (0)) dX7_load_41 (by decide) ?_
    refine ce_istore_n dX7_load_42 (Nat.le_of_ble_eq_true rfl) rfl ?_
    refine ce_iload_n dX7_load_43 rfl ?_
    refine ce_iconst (v := nI (2)) dX7_load_44 (by decide) ?_
    refine ce_icmp_geN (tgt := 61) dX7_load_45 (by decide) rfl rfl (by omega) (by omega) (fun c_45 => ?_) (fun c_45 => ?_)
    · omega
    · refine ce_aload_n dX7_load_48 rfl ?_
      refine ce_getR dX7_load_49 fRX7_48 hX.1 hX.2.1.2.2.2.2.2.2 ?_
      refine ce_iload_n dX7_load_52 rfl ?_
      refine ce_iconst (v := nI (0)) dX7_load_53 (by decide) ?_
      refine ce_zast dX7_load_54 (hX.2.2.2.2.2.2.2.2.2.2).1 rfl (hX.2.2.2.2.2.2.2.2.2.2).2 (by omega) (by decide) rfl ?_
      generalize hcg4 : ce_up cg3 (a + 410) (0) (nI (0)) = cg4
      refine ce_iinc (v := nI (1)) dX7_load_55 rfl (ce_inc1 _) (Nat.le_of_ble_eq_true rfl) rfl ?_
      refine ce_goto (tgt := 43) dX7_load_58 (by decide) ?_
      refine ce_iload_n dX7_load_43 rfl ?_
      refine ce_iconst (v := nI (2)) dX7_load_44 (by decide) ?_
      refine ce_icmp_geN (tgt := 61) dX7_load_45 (by decide) rfl rfl (by omega) (by omega) (fun c_45 => ?_) (fun c_45 => ?_)
      · omega
      · refine ce_aload_n dX7_load_48 rfl ?_
        refine ce_getR dX7_load_49 fRX7_48 hX.1 hX.2.1.2.2.2.2.2.2 ?_
        refine ce_iload_n dX7_load_52 rfl ?_
        refine ce_iconst (v := nI (0)) dX7_load_53 (by decide) ?_
        refine ce_zast dX7_load_54 (hX.2.2.2.2.2.2.2.2.2.2).1 rfl (hX.2.2.2.2.2.2.2.2.2.2).2 (by omega) (by decide) rfl ?_
        generalize hcg5 : ce_up cg4 (a + 410) (1) (nI (0)) = cg5
        refine ce_iinc (v := nI (2)) dX7_load_55 rfl (ce_inc1 _) (Nat.le_of_ble_eq_true rfl) rfl ?_
        refine ce_goto (tgt := 43) dX7_load_58 (by decide) ?_
        refine ce_iload_n dX7_load_43 rfl ?_
        refine ce_iconst (v := nI (2)) dX7_load_44 (by decide) ?_
        refine ce_icmp_geN (tgt := 61) dX7_load_45 (by decide) rfl rfl (by omega) (by omega) (fun c_45 => ?_) (fun c_45 => ?_)
        · have x9 := rX_load hr hX.2.2.2.1.2.2.2 fcg1 hcg2.1 hcg2.2 hcg3 hcg4 hcg5
          refine ce_aload_n dX7_load_61 rfl ?_
          refine ce_getR dX7_load_62 fRX7_10 hX.1 hX.2.1.1 ?_
          refine ce_getIv dX7_load_65 fRX7_82 (hX.2.2.1).1 (x9.1.1).1 ?_
          refine ce_iret dX7_load_68 rfl rfl (by decide) (by decide) ?_
          exact ⟨_, rfl, rfl, rfl, x9.1, x9.2⟩
        · omega
/-- a fault was thrown behind a reading -/
def kx_XR (f : Nat) (σ : ce_S) (g : ce_D) (a : Nat) (b : Nat → Nat) (S : ks_S) : String → ce_S → ce_D → Prop := fun E σ1 g1 => (E = kx_E f ∧ ∃ n, σ.1 ≤ n ∧ σ1 = (n, σ.2)) ∧ ce_rX g1 a b S ∧ ce_fr a (a + 411) g g1
set_option maxHeartbeats 2000000 in
set_option maxRecDepth 20000 in
theorem m_X7_load_no {σ : ce_S} {g : ce_D} (a : Nat) (b : Nat → Nat) (S : ks_S) (hX : ce_LX σ a b) (hr : ce_rX g a b S) (ok : ks_ok S) (p : Nat) (hp9 : p ≤ 1000) (hp : (kx_read (sT S) (sl S)).1 = some p) : ce_CT (ce_rx 6) mX7_load [.ref (a)] σ g (fun _ _ _ => False) (kx_XR 3 σ g a b S) := by
  refine ce_enter (by decide) rfl (Nat.le_of_ble_eq_true rfl) (L := [some (.ref (a)), none]) rfl ?_
  refine ce_aload_n dX7_load_0 rfl ?_
  refine ce_getR dX7_load_1 fRX7_19 hX.1 hX.2.1.2.1 ?_
  refine ce_cVr dX7_load_4 hX6_read kRX7_68 (m_X6_read a b hX (sT S) (sl S) hr.2.2.2.1 hr.2.2.2.2.1 hr.2.2.2.2.2.1 ok.2.2.2 hr.2.2.2.2.2.2) rfl rfl hX.2.2.2.2.2.1.1 rfl (by decide) (Nat.le_of_ble_eq_true rfl) (fun rcg1 cg1 hcg1 => ?_)
  obtain ⟨ecg1, ucg1, fcg1⟩ := hcg1
  rw [hp] at ecg1
  have ecg1 : rcg1 = nI p := ecg1
  subst ecg1
  have x9 := rX_read hr hX.2.2.2.1.2.2.2 fcg1
  refine ce_ldc dX7_load_7 kRX7_71 ?_
  refine ce_icmp_neI (p := ((p : Nat) : Int)) (q := (-99999)) (tgt := 16) dX7_load_9 (by decide) (nI_toInt (by omega)) (by decide) (fun c_9 => ?_) (fun c_9 => ?_)
  · refine ce_iconst (v := nI (3)) dX7_load_16 (by decide) ?_
    exact ce_callSX dX7_load_17 hX7_check kRX7_56 (m_X7_checkX 3 (by decide) (by decide)) rfl rfl (by decide) (by decide) (by decide) (by decide) (fun v σ1 g1 h => h.elim) (fun E σ1 g1 h => ce_xout rfl (by decide) (by decide) ⟨⟨h.1, h.2.2⟩, h.2.1 ▸ x9.1, h.2.1 ▸ x9.2⟩)
  · omega
