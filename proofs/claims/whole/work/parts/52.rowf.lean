/-- an allocation as the reference does it: the first n members -/
def kb_al (R : ce_V) (w : Nat) : Nat → ce_V → ce_V
  | 0, F => F
  | n + 1, F => kv_up (kv_up (kv_up (kb_al R w n F) 7 (n * 6 + w) 0) 8 (n * 6 + w) (R 8 (n * 6 + w))) 1 n (min 999 (F 1 n + R 8 (n * 6 + w)))
theorem kb_al_ne {R : ce_V} {w a j : Nat} (h : a ≠ 1 ∧ a ≠ 7 ∧ a ≠ 8) : ∀ {n : Nat} {F : ce_V}, kb_al R w n F a j = F a j
  | 0, _ => rfl
  | n + 1, F => by
    show kv_up (kv_up (kv_up (kb_al R w n F) 7 _ 0) 8 _ _) 1 n _ a j = F a j
    rw [kv_up_ne h.1, kv_up_ne h.2.2, kv_up_ne h.2.1, kb_al_ne h]
theorem kb_al_1 {R : ce_V} {w j : Nat} : ∀ {n : Nat} {F : ce_V}, n ≤ j → kb_al R w n F 1 j = F 1 j
  | 0, _, _ => rfl
  | n + 1, F, h => by
    show kv_up (kv_up (kv_up (kb_al R w n F) 7 _ 0) 8 _ _) 1 n _ 1 j = F 1 j
    rw [kv_up_j (by omega), kv_up_ne (by decide), kv_up_ne (by decide), kb_al_1 (by omega)]
theorem kb_end {R : ce_V} {w n : Nat} {O : Nat → Int32} : upd (ko_end R w n O) n (ko_end R w n O n + nI (kv_half R w (R 8 (n * 6 + w)))) = ko_end R w (n + 1) O := by
  funext m
  unfold upd ko_end
  by_cases e : m = n
  · subst e
    rw [if_pos rfl, if_neg (Nat.lt_irrefl m), if_pos (by omega)]
  · rw [if_neg e]
    by_cases e2 : m < n
    · rw [if_pos e2, if_pos (by omega)]
    · rw [if_neg e2, if_neg (by omega)]
def kb_all (R : ce_V) (w : Nat) (F : ce_V) : ce_V := kv_up (kv_up (kb_al R w (F 0 0) F) 4 w (R 4 w)) 5 w 1
set_option maxHeartbeats 2000000 in
set_option maxRecDepth 20000 in
theorem w_X8_goAllocate {σ : ce_S} {g0 : ce_D} (d r : Nat) (F : ce_V) (O : Nat → Int32) (hD : ce_LM σ d) (hA : ce_LA σ 10 r 189) (hrd : r ≠ d + 8) (w : Nat) (hw : w < 6) (h6 : F 0 0 ≤ 6) (hp : ∀ m, F 1 m ≤ 999) (h7 : ∀ i, F 7 i ≤ 60) (h4 : F 4 w ≤ 60) (h2 : F 2 w ≤ 99) (hS : cr_sh F (kv_share w 60 F) w) : ∀ (n9 i : Nat) (g : ce_D), F 0 0 - i < n9 → i ≤ F 0 0 → cr_row (g r) (kb_al (kv_share w 60 F) w i F) (ko_end (kv_share w 60 F) w i O) → (∀ m, m < 6 → g (d + 8) m = nI ((kv_share w 60 F) 8 (m * 6 + w))) → (∀ x, x ≠ d + 8 → x ≠ r → g x = g0 x) → ce_WP (ce_r 3) mX8_goAllocate 0 0 10 [some (.ref (d)), some (.ref (r)), some (.int (nI (w))), some (.int (nI (F 4 w - kv_share w 60 F 4 w))), some (.int (nI (i))), none] [] σ g (ce_rv σ (fun z9 g1 => z9 = nI (F 4 w - kv_share w 60 F 4 w) ∧ cr_row (g1 r) (kb_all (kv_share w 60 F) w F) (ko_end (kv_share w 60 F) w (F 0 0) O) ∧ ∀ x, x ≠ d + 8 → x ≠ r → g1 x = g0 x)) ce_no := by
  intro n9
  induction n9 with
  | zero =>
    intros
    omega
  | succ n9 ih =>
    intro i g hm hi hr hg hf
    have q8 := hS.2.2.2.2.1 i
    have q7 := h7 (i * 6 + w)
    have q1 := hp i
    have q4 := hS.2.2.2.1
    have qm : F 2 w * (kv_share w 60 F) 8 (i * 6 + w) ≤ 99 * 60 := Nat.mul_le_mul h2 (by omega)
    refine ce_iload dX8_goAllocate_10 rfl ?_
    refine ce_aload_n dX8_goAllocate_12 rfl ?_
    refine ce_iconst (v := nI (0)) dX8_goAllocate_13 (by decide) ?_
    refine ce_ialdv dX8_goAllocate_14 (hA).1 rfl (hA).2 (by omega) (by decide) (((hr).c0).trans (congrArg nI (by rw [kb_al_ne (by decide)]))) ?_
    refine ce_icmp_geN (tgt := 121) dX8_goAllocate_15 (by decide) rfl rfl (by omega) (by omega) (fun c_15 => ?_) (fun c_15 => ?_)
    · refine ce_aload_n dX8_goAllocate_121 rfl ?_
      refine ce_iload_n dX8_goAllocate_122 rfl ?_
      refine ce_cSp dX8_goAllocate_123 hX8_wineAt kRX8_62 (m_X8_wineAt (w)) rfl rfl (by decide) (Nat.le_of_ble_eq_true rfl) ?_
      refine ce_iconst (v := nI (2)) dX8_goAllocate_126 (by decide) ?_
      refine ce_iadd (z := nI (21 + 6 * w + 2)) dX8_goAllocate_127 (nI_add _ _) ?_
      refine ce_dup2 dX8_goAllocate_128 rfl rfl ?_
      refine ce_ialdv dX8_goAllocate_129 (hA).1 rfl (hA).2 (by omega) (by decide) (((hr).w2 (by omega)).trans (congrArg nI (by rw [kb_al_ne (by decide)]))) ?_
      refine ce_iload_n dX8_goAllocate_130 rfl ?_
      refine ce_isub (z := nI (F 4 w - (F 4 w - kv_share w 60 F 4 w))) dX8_goAllocate_131 (pk_sub (by omega)) ?_
      refine ce_iast dX8_goAllocate_132 (hA).1 rfl (hA).2 (by omega) (by decide) ?_
      generalize hcg1 : ce_up g (r) (21 + 6 * w + 2) (nI (F 4 w - (F 4 w - kv_share w 60 F 4 w))) = cg1
      have rcg1 : cr_row (cg1 (r)) (kv_up (kb_al (kv_share w 60 F) w i F) 4 w (F 4 w - (F 4 w - kv_share w 60 F 4 w))) (ko_end (kv_share w 60 F) w i O) := by rw [← hcg1, ce_up_eq]; exact (hr).uw2 (by omega) (F 4 w - (F 4 w - kv_share w 60 F 4 w))
      have fcg1 : ∀ x, x ≠ d + 8 → x ≠ r → cg1 x = g0 x := fun x h1 h2 => by rw [← hcg1, ce_up_ne _ _ _ (by assumption)]; exact hf x h1 h2
      have ucg1 : ∀ m, m < 6 → cg1 (d + 8) m = nI ((kv_share w 60 F) 8 (m * 6 + w)) := fun m hm6 => by rw [← hcg1, ce_up_ne _ _ _ (Ne.symm hrd)]; exact hg m hm6
      refine ce_aload_n dX8_goAllocate_133 rfl ?_
      refine ce_iload_n dX8_goAllocate_134 rfl ?_
      refine ce_cSp dX8_goAllocate_135 hX8_wineAt kRX8_62 (m_X8_wineAt (w)) rfl rfl (by decide) (Nat.le_of_ble_eq_true rfl) ?_
      refine ce_iconst (v := nI (3)) dX8_goAllocate_138 (by decide) ?_
      refine ce_iadd (z := nI (21 + 6 * w + 3)) dX8_goAllocate_139 (nI_add _ _) ?_
      refine ce_iconst (v := nI (1)) dX8_goAllocate_140 (by decide) ?_
      refine ce_iast dX8_goAllocate_141 (hA).1 rfl (hA).2 (by omega) (by decide) ?_
      generalize hcg2 : ce_up cg1 (r) (21 + 6 * w + 3) (nI (1)) = cg2
      have rcg2 : cr_row (cg2 (r)) (kv_up (kv_up (kb_al (kv_share w 60 F) w i F) 4 w (F 4 w - (F 4 w - kv_share w 60 F 4 w))) 5 w (1)) (ko_end (kv_share w 60 F) w i O) := by rw [← hcg2, ce_up_eq]; exact (rcg1).uw3 (by omega) (1)
      have fcg2 : ∀ x, x ≠ d + 8 → x ≠ r → cg2 x = g0 x := fun x h1 h2 => by rw [← hcg2, ce_up_ne _ _ _ (by assumption)]; exact fcg1 x h1 h2
      have ucg2 : ∀ m, m < 6 → cg2 (d + 8) m = nI ((kv_share w 60 F) 8 (m * 6 + w)) := fun m hm6 => by rw [← hcg2, ce_up_ne _ _ _ (Ne.symm hrd)]; exact ucg1 m hm6
      refine ce_iload_n dX8_goAllocate_142 rfl ?_
      refine ce_iret dX8_goAllocate_143 rfl rfl (by decide) (by decide) ?_
      have eF : (kv_up (kv_up (kb_al (kv_share w 60 F) w i F) 4 w (F 4 w - (F 4 w - kv_share w 60 F 4 w))) 5 w (1)) = kb_all (kv_share w 60 F) w F := by unfold kb_all; rw [show F 4 w - (F 4 w - kv_share w 60 F 4 w) = kv_share w 60 F 4 w by omega, show i = F 0 0 by omega]
      exact ⟨_, rfl, rfl, rfl, by have := rcg2; rw [eF, show i = F 0 0 by omega] at this; exact this, fcg2⟩
    · refine ce_aload_n dX8_goAllocate_18 rfl ?_
      refine ce_iload dX8_goAllocate_19 rfl ?_
      refine ce_iload_n dX8_goAllocate_21 rfl ?_
      refine ce_cSp dX8_goAllocate_22 hX8_hold kRX8_54 (m_X8_hold (i) (w)) rfl rfl (by decide) (Nat.le_of_ble_eq_true rfl) ?_
      refine ce_iconst (v := nI (0)) dX8_goAllocate_25 (by decide) ?_
      refine ce_iast dX8_goAllocate_26 (hA).1 rfl (hA).2 (by omega) (by decide) ?_
      generalize hcg1 : ce_up g (r) (81 + 18 * i + 3 * w) (nI (0)) = cg1
      have rcg1 : cr_row (cg1 (r)) (kv_up (kb_al (kv_share w 60 F) w i F) 7 (i * 6 + w) (0)) (ko_end (kv_share w 60 F) w i O) := by rw [← hcg1, ce_up_eq]; exact (hr).uh0 (by omega) (by omega) (0)
      have fcg1 : ∀ x, x ≠ d + 8 → x ≠ r → cg1 x = g0 x := fun x h1 h2 => by rw [← hcg1, ce_up_ne _ _ _ (by assumption)]; exact hf x h1 h2
      have ucg1 : ∀ m, m < 6 → cg1 (d + 8) m = nI ((kv_share w 60 F) 8 (m * 6 + w)) := fun m hm6 => by rw [← hcg1, ce_up_ne _ _ _ (Ne.symm hrd)]; exact hg m hm6
      refine ce_aload_n dX8_goAllocate_27 rfl ?_
      refine ce_iload dX8_goAllocate_28 rfl ?_
      refine ce_iload_n dX8_goAllocate_30 rfl ?_
      refine ce_cSp dX8_goAllocate_31 hX8_hold kRX8_54 (m_X8_hold (i) (w)) rfl rfl (by decide) (Nat.le_of_ble_eq_true rfl) ?_
      refine ce_iconst (v := nI (1)) dX8_goAllocate_34 (by decide) ?_
      refine ce_iadd (z := nI (81 + 18 * i + 3 * w + 1)) dX8_goAllocate_35 (nI_add _ _) ?_
      refine ce_aload_n dX8_goAllocate_36 rfl ?_
      refine ce_getR dX8_goAllocate_37 fRX8_32 hD.1 hD.2.1.2.2.2.2.2.2.2.1 ?_
      refine ce_iload dX8_goAllocate_40 rfl ?_
      refine ce_ialdv dX8_goAllocate_42 (hD.2.2.2.2.2.2.2.2.2.1).1 rfl (hD.2.2.2.2.2.2.2.2.2.1).2 (by omega) (by decide) (ucg1 _ (by omega)) ?_
      refine ce_iast dX8_goAllocate_43 (hA).1 rfl (hA).2 (by omega) (by decide) ?_
      generalize hcg2 : ce_up cg1 (r) (81 + 18 * i + 3 * w + 1) (nI ((kv_share w 60 F) 8 (i * 6 + w))) = cg2
      have rcg2 : cr_row (cg2 (r)) (kv_up (kv_up (kb_al (kv_share w 60 F) w i F) 7 (i * 6 + w) (0)) 8 (i * 6 + w) ((kv_share w 60 F) 8 (i * 6 + w))) (ko_end (kv_share w 60 F) w i O) := by rw [← hcg2, ce_up_eq]; exact (rcg1).uh1 (by omega) (by omega) ((kv_share w 60 F) 8 (i * 6 + w))
      have fcg2 : ∀ x, x ≠ d + 8 → x ≠ r → cg2 x = g0 x := fun x h1 h2 => by rw [← hcg2, ce_up_ne _ _ _ (by assumption)]; exact fcg1 x h1 h2
      have ucg2 : ∀ m, m < 6 → cg2 (d + 8) m = nI ((kv_share w 60 F) 8 (m * 6 + w)) := fun m hm6 => by rw [← hcg2, ce_up_ne _ _ _ (Ne.symm hrd)]; exact ucg1 m hm6
      refine ce_aload_n dX8_goAllocate_44 rfl ?_
      refine ce_iload dX8_goAllocate_45 rfl ?_
      refine ce_cSp dX8_goAllocate_47 hX8_memberAt kRX8_83 (m_X8_memberAt (i)) rfl rfl (by decide) (Nat.le_of_ble_eq_true rfl) ?_
      refine ce_iconst (v := nI (1)) dX8_goAllocate_50 (by decide) ?_
      refine ce_iadd (z := nI (3 + 3 * i + 1)) dX8_goAllocate_51 (nI_add _ _) ?_
      refine ce_dup2 dX8_goAllocate_52 rfl rfl ?_
      refine ce_ialdv dX8_goAllocate_53 (hA).1 rfl (hA).2 (by omega) (by decide) ((rcg2).m1 (by omega)) ?_
      refine ce_aload_n dX8_goAllocate_54 rfl ?_
      refine ce_iload_n dX8_goAllocate_55 rfl ?_
      refine ce_cSp dX8_goAllocate_56 hX8_wineAt kRX8_62 (m_X8_wineAt (w)) rfl rfl (by decide) (Nat.le_of_ble_eq_true rfl) ?_
      refine ce_iconst (v := nI (0)) dX8_goAllocate_59 (by decide) ?_
      refine ce_iadd (z := nI (21 + 6 * w + 0)) dX8_goAllocate_60 (nI_add _ _) ?_
      refine ce_ialdv dX8_goAllocate_61 (hA).1 rfl (hA).2 (by omega) (by decide) (((rcg2).w0 (by omega)).trans (congrArg nI (by rw [kv_up_ne (by decide), kv_up_ne (by decide), kb_al_ne (by decide)]))) ?_
      refine ce_aload_n dX8_goAllocate_62 rfl ?_
      refine ce_getR dX8_goAllocate_63 fRX8_32 hD.1 hD.2.1.2.2.2.2.2.2.2.1 ?_
      refine ce_iload dX8_goAllocate_66 rfl ?_
      refine ce_ialdv dX8_goAllocate_68 (hD.2.2.2.2.2.2.2.2.2.1).1 rfl (hD.2.2.2.2.2.2.2.2.2.1).2 (by omega) (by decide) (ucg2 _ (by omega)) ?_
      refine ce_imul (z := nI (F 2 w * (kv_share w 60 F) 8 (i * 6 + w))) dX8_goAllocate_69 (pk_mul _ _) ?_
      refine ce_cSp dX8_goAllocate_70 hX8_half kRX8_89 (m_X8_half (F 2 w * (kv_share w 60 F) 8 (i * 6 + w)) (by omega)) rfl rfl (by decide) (Nat.le_of_ble_eq_true rfl) ?_
      refine ce_iadd (z := ((ko_end (kv_share w 60 F) w i O) i) + (nI (((F 2 w * (kv_share w 60 F) 8 (i * 6 + w)) + 1) / 2))) dX8_goAllocate_73 rfl ?_
      refine ce_iast dX8_goAllocate_74 (hA).1 rfl (hA).2 (by omega) (by decide) ?_
      generalize hcg3 : ce_up cg2 (r) (3 + 3 * i + 1) (((ko_end (kv_share w 60 F) w i O) i) + (nI (((F 2 w * (kv_share w 60 F) 8 (i * 6 + w)) + 1) / 2))) = cg3
      have rcg3 : cr_row (cg3 (r)) (kv_up (kv_up (kb_al (kv_share w 60 F) w i F) 7 (i * 6 + w) (0)) 8 (i * 6 + w) ((kv_share w 60 F) 8 (i * 6 + w))) (upd (ko_end (kv_share w 60 F) w i O) i (((ko_end (kv_share w 60 F) w i O) i) + (nI (((F 2 w * (kv_share w 60 F) 8 (i * 6 + w)) + 1) / 2)))) := by rw [← hcg3, ce_up_eq]; exact (rcg2).um1 (by omega) (((ko_end (kv_share w 60 F) w i O) i) + (nI (((F 2 w * (kv_share w 60 F) 8 (i * 6 + w)) + 1) / 2)))
      have fcg3 : ∀ x, x ≠ d + 8 → x ≠ r → cg3 x = g0 x := fun x h1 h2 => by rw [← hcg3, ce_up_ne _ _ _ (by assumption)]; exact fcg2 x h1 h2
      have ucg3 : ∀ m, m < 6 → cg3 (d + 8) m = nI ((kv_share w 60 F) 8 (m * 6 + w)) := fun m hm6 => by rw [← hcg3, ce_up_ne _ _ _ (Ne.symm hrd)]; exact ucg2 m hm6
      refine ce_aload_n dX8_goAllocate_75 rfl ?_
      refine ce_iload dX8_goAllocate_76 rfl ?_
      refine ce_cSp dX8_goAllocate_78 hX8_memberAt kRX8_83 (m_X8_memberAt (i)) rfl rfl (by decide) (Nat.le_of_ble_eq_true rfl) ?_
      refine ce_ialdv dX8_goAllocate_81 (hA).1 rfl (hA).2 (by omega) (by decide) (((rcg3).m0 (by omega)).trans (congrArg nI (by rw [kv_up_ne (by decide), kv_up_ne (by decide), kb_al_1 (by omega)]))) ?_
      refine ce_aload_n dX8_goAllocate_82 rfl ?_
      refine ce_getR dX8_goAllocate_83 fRX8_32 hD.1 hD.2.1.2.2.2.2.2.2.2.1 ?_
      refine ce_iload dX8_goAllocate_86 rfl ?_
      refine ce_ialdv dX8_goAllocate_88 (hD.2.2.2.2.2.2.2.2.2.1).1 rfl (hD.2.2.2.2.2.2.2.2.2.1).2 (by omega) (by decide) (ucg3 _ (by omega)) ?_
      refine ce_iadd (z := nI (F 1 i + ((kv_share w 60 F) 8 (i * 6 + w)))) dX8_goAllocate_89 (nI_add _ _) ?_
      refine ce_istore dX8_goAllocate_90 (Nat.le_of_ble_eq_true rfl) rfl ?_
      refine ce_aload_n dX8_goAllocate_92 rfl ?_
      refine ce_iload dX8_goAllocate_93 rfl ?_
      refine ce_cSp dX8_goAllocate_95 hX8_memberAt kRX8_83 (m_X8_memberAt (i)) rfl rfl (by decide) (Nat.le_of_ble_eq_true rfl) ?_
      refine ce_iload dX8_goAllocate_98 rfl ?_
      refine ce_sipush (v := nI (999)) dX8_goAllocate_100 (by decide) ?_
      refine ce_icmp_leN (tgt := 112) dX8_goAllocate_103 (by decide) rfl rfl (by omega) (by omega) (fun c_103 => ?_) (fun c_103 => ?_)
      · refine ce_iload dX8_goAllocate_112 rfl ?_
        refine ce_iast dX8_goAllocate_114 (hA).1 rfl (hA).2 (by omega) (by decide) ?_
        generalize hcg4 : ce_up cg3 (r) (3 + 3 * i) (nI (F 1 i + ((kv_share w 60 F) 8 (i * 6 + w)))) = cg4
        have rcg4 : cr_row (cg4 (r)) (kv_up (kv_up (kv_up (kb_al (kv_share w 60 F) w i F) 7 (i * 6 + w) (0)) 8 (i * 6 + w) ((kv_share w 60 F) 8 (i * 6 + w))) 1 i (F 1 i + ((kv_share w 60 F) 8 (i * 6 + w)))) (upd (ko_end (kv_share w 60 F) w i O) i (((ko_end (kv_share w 60 F) w i O) i) + (nI (((F 2 w * (kv_share w 60 F) 8 (i * 6 + w)) + 1) / 2)))) := by rw [← hcg4, ce_up_eq]; exact (rcg3).um0 (by omega) (F 1 i + ((kv_share w 60 F) 8 (i * 6 + w)))
        have fcg4 : ∀ x, x ≠ d + 8 → x ≠ r → cg4 x = g0 x := fun x h1 h2 => by rw [← hcg4, ce_up_ne _ _ _ (by assumption)]; exact fcg3 x h1 h2
        have ucg4 : ∀ m, m < 6 → cg4 (d + 8) m = nI ((kv_share w 60 F) 8 (m * 6 + w)) := fun m hm6 => by rw [← hcg4, ce_up_ne _ _ _ (Ne.symm hrd)]; exact ucg3 m hm6
        refine ce_iinc (v := nI (i + 1)) dX8_goAllocate_115 rfl (ce_inc1 _) (Nat.le_of_ble_eq_true rfl) rfl ?_
        refine ce_goto (tgt := 10) dX8_goAllocate_118 (by decide) ?_
        refine ce_drop (L' := [some (.ref (d)), some (.ref (r)), some (.int (nI (w))), some (.int (nI (F 4 w - kv_share w 60 F 4 w))), some (.int (nI (i + 1))), none]) (ce_le_s rfl (ce_le_s rfl (ce_le_s rfl (ce_le_s rfl (ce_le_s rfl (ce_le_n ce_le_e)))))) ?_
        have eF : (kv_up (kv_up (kv_up (kb_al (kv_share w 60 F) w i F) 7 (i * 6 + w) (0)) 8 (i * 6 + w) ((kv_share w 60 F) 8 (i * 6 + w))) 1 i (F 1 i + ((kv_share w 60 F) 8 (i * 6 + w)))) = kb_al (kv_share w 60 F) w (i + 1) F := by
          show _ = kv_up (kv_up (kv_up (kb_al (kv_share w 60 F) w i F) 7 _ 0) 8 _ _) 1 i (min 999 (F 1 i + (kv_share w 60 F) 8 (i * 6 + w)))
          rw [show min 999 (F 1 i + (kv_share w 60 F) 8 (i * 6 + w)) = F 1 i + ((kv_share w 60 F) 8 (i * 6 + w)) by omega]
        have eO := kb_end (R := (kv_share w 60 F)) (w := w) (n := i) (O := O)
        unfold kv_half at eO
        rw [kv_share_ne (a := 2) (by decide)] at eO
        exact ih (i + 1) cg4 (by omega) (by omega) (by have := rcg4; rw [eF, eO] at this; exact this) ucg4 fcg4
      · refine ce_sipush (v := nI (999)) dX8_goAllocate_106 (by decide) ?_
        refine ce_goto (tgt := 114) dX8_goAllocate_109 (by decide) ?_
        refine ce_iast dX8_goAllocate_114 (hA).1 rfl (hA).2 (by omega) (by decide) ?_
        generalize hcg4 : ce_up cg3 (r) (3 + 3 * i) (nI (999)) = cg4
        have rcg4 : cr_row (cg4 (r)) (kv_up (kv_up (kv_up (kb_al (kv_share w 60 F) w i F) 7 (i * 6 + w) (0)) 8 (i * 6 + w) ((kv_share w 60 F) 8 (i * 6 + w))) 1 i (999)) (upd (ko_end (kv_share w 60 F) w i O) i (((ko_end (kv_share w 60 F) w i O) i) + (nI (((F 2 w * (kv_share w 60 F) 8 (i * 6 + w)) + 1) / 2)))) := by rw [← hcg4, ce_up_eq]; exact (rcg3).um0 (by omega) (999)
        have fcg4 : ∀ x, x ≠ d + 8 → x ≠ r → cg4 x = g0 x := fun x h1 h2 => by rw [← hcg4, ce_up_ne _ _ _ (by assumption)]; exact fcg3 x h1 h2
        have ucg4 : ∀ m, m < 6 → cg4 (d + 8) m = nI ((kv_share w 60 F) 8 (m * 6 + w)) := fun m hm6 => by rw [← hcg4, ce_up_ne _ _ _ (Ne.symm hrd)]; exact ucg3 m hm6
        refine ce_iinc (v := nI (i + 1)) dX8_goAllocate_115 rfl (ce_inc1 _) (Nat.le_of_ble_eq_true rfl) rfl ?_
        refine ce_goto (tgt := 10) dX8_goAllocate_118 (by decide) ?_
        refine ce_drop (L' := [some (.ref (d)), some (.ref (r)), some (.int (nI (w))), some (.int (nI (F 4 w - kv_share w 60 F 4 w))), some (.int (nI (i + 1))), none]) (ce_le_s rfl (ce_le_s rfl (ce_le_s rfl (ce_le_s rfl (ce_le_s rfl (ce_le_n ce_le_e)))))) ?_
        have eF : (kv_up (kv_up (kv_up (kb_al (kv_share w 60 F) w i F) 7 (i * 6 + w) (0)) 8 (i * 6 + w) ((kv_share w 60 F) 8 (i * 6 + w))) 1 i (999)) = kb_al (kv_share w 60 F) w (i + 1) F := by
          show _ = kv_up (kv_up (kv_up (kb_al (kv_share w 60 F) w i F) 7 _ 0) 8 _ _) 1 i (min 999 (F 1 i + (kv_share w 60 F) 8 (i * 6 + w)))
          rw [show min 999 (F 1 i + (kv_share w 60 F) 8 (i * 6 + w)) = 999 by omega]
        have eO := kb_end (R := (kv_share w 60 F)) (w := w) (n := i) (O := O)
        unfold kv_half at eO
        rw [kv_share_ne (a := 2) (by decide)] at eO
        exact ih (i + 1) cg4 (by omega) (by omega) (by have := rcg4; rw [eF, eO] at this; exact this) ucg4 fcg4
set_option maxHeartbeats 2000000 in
set_option maxRecDepth 20000 in
theorem m_X8_goAllocate {σ : ce_S} {g0 : ce_D} (d r : Nat) (F : ce_V) (O : Nat → Int32) (hD : ce_LM σ d) (hA : ce_LA σ 10 r 189) (hr0 : cr_row (g0 r) F O) (hrd : r ≠ d + 8) (w : Nat) (hw : w < 6) (h6 : F 0 0 ≤ 6) (hp : ∀ m, F 1 m ≤ 999) (h7 : ∀ i, F 7 i ≤ 60) (h4 : F 4 w ≤ 60) (h2 : F 2 w ≤ 99) (h8 : ∀ m, F 8 (m * 6 + w) = 0) : ce_CT (ce_r 3) mX8_goAllocate [.ref (d), .ref (r), .int (nI (w))] σ g0 (ce_rv σ (fun z9 g1 => z9 = nI (F 4 w - kv_share w 60 F 4 w) ∧ cr_row (g1 r) (kb_all (kv_share w 60 F) w F) (ko_end (kv_share w 60 F) w (F 0 0) O) ∧ ∀ x, x ≠ d + 8 → x ≠ r → g1 x = g0 x)) ce_no := by
  refine ce_enter (by decide) rfl (Nat.le_of_ble_eq_true rfl) (L := [some (.ref (d)), some (.ref (r)), some (.int (nI (w))), none, none, none]) rfl ?_
  refine ce_aload_n dX8_goAllocate_0 rfl ?_
  refine ce_aload_n dX8_goAllocate_1 rfl ?_
  refine ce_iload_n dX8_goAllocate_2 rfl ?_
  refine ce_cVr dX8_goAllocate_3 hX8_layGot kRX8_86 (m_X8_layGot d r F O hD hA hr0 hrd w hw h6 hp h7 h4 h8) rfl rfl hD.1 rfl (by decide) (Nat.le_of_ble_eq_true rfl) (fun rcg1 cg1 hcg1 => ?_)
  obtain ⟨ecg1, hS, hg, hf⟩ := hcg1
  subst ecg1
  have hr1 : cr_row (cg1 r) F O := by rw [hf r hrd]; exact hr0
  refine ce_istore_n dX8_goAllocate_6 (Nat.le_of_ble_eq_true rfl) rfl ?_
  refine ce_iconst (v := nI (0)) dX8_goAllocate_7 (by decide) ?_
  refine ce_istore dX8_goAllocate_8 (Nat.le_of_ble_eq_true rfl) rfl ?_
  have e0 : ko_end (kv_share w 60 F) w 0 O = O := by funext m; exact if_neg (Nat.not_lt_zero m)
  exact w_X8_goAllocate d r F O hD hA hrd w hw h6 hp h7 h4 h2 hS (F 0 0 + 1) 0 cg1 (by omega) (by omega) (by rw [e0]; exact hr1) hg (fun x h1 _ => hf x h1)
def kb_de (w : Nat) : Nat → ce_V → ce_V
  | 0, F => F
  | n + 1, F => kv_up (kv_up (kb_de w n F) 8 (n * 6 + w) 0) 9 (n * 6 + w) (F 9 (n * 6 + w) + F 8 (n * 6 + w))
theorem kb_de_ne {w a j : Nat} (h : a ≠ 8 ∧ a ≠ 9) : ∀ {n : Nat} {F : ce_V}, kb_de w n F a j = F a j
  | 0, _ => rfl
  | n + 1, F => by
    show kv_up (kv_up (kb_de w n F) 8 _ 0) 9 _ _ a j = F a j
    rw [kv_up_ne h.2, kv_up_ne h.1, kb_de_ne h]
theorem kb_de_8 {w a m : Nat} (hw : w < 6) : ∀ {n : Nat} {F : ce_V}, n ≤ m → kb_de w n F a (m * 6 + w) = F a (m * 6 + w)
  | 0, _, _ => rfl
  | n + 1, F, h => by
    show kv_up (kv_up (kb_de w n F) 8 (n * 6 + w) 0) 9 (n * 6 + w) _ a (m * 6 + w) = F a (m * 6 + w)
    rw [kv_up_j (by omega), kv_up_j (by omega), kb_de_8 hw (by omega)]
def kb_deO (F : ce_V) (w n : Nat) (O : Nat → Int32) : Nat → Int32 := fun m => if m < n then O m + nI (F 2 w * F 8 (m * 6 + w) - (F 2 w * F 8 (m * 6 + w) + 1) / 2) else O m
theorem kb_dend {F : ce_V} {w n : Nat} {O : Nat → Int32} : upd (kb_deO F w n O) n (kb_deO F w n O n + nI (F 2 w * F 8 (n * 6 + w) - (F 2 w * F 8 (n * 6 + w) + 1) / 2)) = kb_deO F w (n + 1) O := by
  funext m
  unfold upd kb_deO
  by_cases e : m = n
  · subst e
    rw [if_pos rfl, if_neg (Nat.lt_irrefl m), if_pos (by omega)]
  · rw [if_neg e]
    by_cases e2 : m < n
    · rw [if_pos e2, if_pos (by omega)]
    · rw [if_neg e2, if_neg (by omega)]
def kb_del (w : Nat) (F : ce_V) : ce_V := kv_up (kb_de w (F 0 0) (kv_lay w 8 (ce_sum (fun m => F 8 (m * 6 + w)) (F 0 0)) F)) 5 w 2
set_option maxHeartbeats 2000000 in
set_option maxRecDepth 20000 in
theorem w_X8_goDeliver {σ : ce_S} {g0 : ce_D} (r : Nat) (F : ce_V) (O : Nat → Int32) (hA : ce_LA σ 10 r 189) (w : Nat) (hw : w < 6) (h6 : F 0 0 ≤ 6) (h2 : F 2 w ≤ 99) (h8 : ∀ i, F 8 i ≤ 60) : ∀ (n9 i : Nat) (g : ce_D), F 0 0 - i < n9 → i ≤ F 0 0 → cr_row (g r) (kb_de w i (kv_lay w 8 (ce_sum (fun m => F 8 (m * 6 + w)) (F 0 0)) F)) (kb_deO F w i O) → (∀ x, x ≠ r → g x = g0 x) → ce_WP (ce_r 4) mX8_goDeliver 0 0 15 [some (.ref (r)), some (.int (nI (w))), some (.int (nI ((ce_sum (fun m => F 8 (m * 6 + w)) (F 0 0))))), some (.int (nI (i))), none] [] σ g (ce_rv σ (fun z9 g1 => z9 = nI (ce_sum (fun m => F 8 (m * 6 + w)) (F 0 0)) ∧ cr_row (g1 r) (kb_del w F) (kb_deO F w (F 0 0) O) ∧ ∀ x, x ≠ r → g1 x = g0 x)) ce_no := by
  intro n9
  induction n9 with
  | zero =>
    intros
    omega
  | succ n9 ih =>
    intro i g hm hi hr hf
    have q8 := h8 (i * 6 + w)
    have qm : F 2 w * F 8 (i * 6 + w) ≤ 99 * 60 := Nat.mul_le_mul h2 q8
    refine ce_iload_n dX8_goDeliver_15 rfl ?_
    refine ce_aload_n dX8_goDeliver_16 rfl ?_
    refine ce_iconst (v := nI (0)) dX8_goDeliver_17 (by decide) ?_
    refine ce_ialdv dX8_goDeliver_18 (hA).1 rfl (hA).2 (by omega) (by decide) (((hr).c0).trans (congrArg nI (by rw [kb_de_ne (by decide), kv_lay_ne (by decide) (by decide)]))) ?_
    refine ce_icmp_geN (tgt := 100) dX8_goDeliver_19 (by decide) rfl rfl (by omega) (by omega) (fun c_19 => ?_) (fun c_19 => ?_)
    · refine ce_aload_n dX8_goDeliver_100 rfl ?_
      refine ce_iload_n dX8_goDeliver_101 rfl ?_
      refine ce_cSp dX8_goDeliver_102 hX8_wineAt kRX8_62 (m_X8_wineAt (w)) rfl rfl (by decide) (Nat.le_of_ble_eq_true rfl) ?_
      refine ce_iconst (v := nI (3)) dX8_goDeliver_105 (by decide) ?_
      refine ce_iadd (z := nI (21 + 6 * w + 3)) dX8_goDeliver_106 (nI_add _ _) ?_
      refine ce_iconst (v := nI (2)) dX8_goDeliver_107 (by decide) ?_
      refine ce_iast dX8_goDeliver_108 (hA).1 rfl (hA).2 (by omega) (by decide) ?_
      generalize hcg1 : ce_up g (r) (21 + 6 * w + 3) (nI (2)) = cg1
      have rcg1 : cr_row (cg1 (r)) (kv_up (kb_de w i (kv_lay w 8 (ce_sum (fun m => F 8 (m * 6 + w)) (F 0 0)) F)) 5 w (2)) (kb_deO F w i O) := by rw [← hcg1, ce_up_eq]; exact (hr).uw3 (by omega) (2)
      have fcg1 : ∀ x, x ≠ r → cg1 x = g0 x := fun x hx => by rw [← hcg1]; exact (ce_up_ne _ _ _ hx).trans (hf x hx)
      refine ce_iload_n dX8_goDeliver_109 rfl ?_
      refine ce_iret dX8_goDeliver_110 rfl rfl (by decide) (by decide) ?_
      exact ⟨_, rfl, rfl, rfl, by have := rcg1; rw [show i = F 0 0 by omega] at this; exact this, fcg1⟩
    · refine ce_aload_n dX8_goDeliver_22 rfl ?_
      refine ce_iload_n dX8_goDeliver_23 rfl ?_
      refine ce_iload_n dX8_goDeliver_24 rfl ?_
      refine ce_cSp dX8_goDeliver_25 hX8_hold kRX8_54 (m_X8_hold (i) (w)) rfl rfl (by decide) (Nat.le_of_ble_eq_true rfl) ?_
      refine ce_iconst (v := nI (1)) dX8_goDeliver_28 (by decide) ?_
      refine ce_iadd (z := nI (81 + 18 * i + 3 * w + 1)) dX8_goDeliver_29 (nI_add _ _) ?_
      refine ce_ialdv dX8_goDeliver_30 (hA).1 rfl (hA).2 (by omega) (by decide) (((hr).h1 (by omega) (by omega)).trans (congrArg nI (by rw [kb_de_8 hw (by omega), kv_lay_ne (by decide) (by decide)]))) ?_
      refine ce_istore dX8_goDeliver_31 (Nat.le_of_ble_eq_true rfl) rfl ?_
      refine ce_aload_n dX8_goDeliver_33 rfl ?_
      refine ce_iload_n dX8_goDeliver_34 rfl ?_
      refine ce_iload_n dX8_goDeliver_35 rfl ?_
      refine ce_cSp dX8_goDeliver_36 hX8_hold kRX8_54 (m_X8_hold (i) (w)) rfl rfl (by decide) (Nat.le_of_ble_eq_true rfl) ?_
      refine ce_iconst (v := nI (1)) dX8_goDeliver_39 (by decide) ?_
      refine ce_iadd (z := nI (81 + 18 * i + 3 * w + 1)) dX8_goDeliver_40 (nI_add _ _) ?_
      refine ce_iconst (v := nI (0)) dX8_goDeliver_41 (by decide) ?_
      refine ce_iast dX8_goDeliver_42 (hA).1 rfl (hA).2 (by omega) (by decide) ?_
      generalize hcg1 : ce_up g (r) (81 + 18 * i + 3 * w + 1) (nI (0)) = cg1
      have rcg1 : cr_row (cg1 (r)) (kv_up (kb_de w i (kv_lay w 8 (ce_sum (fun m => F 8 (m * 6 + w)) (F 0 0)) F)) 8 (i * 6 + w) (0)) (kb_deO F w i O) := by rw [← hcg1, ce_up_eq]; exact (hr).uh1 (by omega) (by omega) (0)
      have fcg1 : ∀ x, x ≠ r → cg1 x = g0 x := fun x hx => by rw [← hcg1]; exact (ce_up_ne _ _ _ hx).trans (hf x hx)
      refine ce_aload_n dX8_goDeliver_43 rfl ?_
      refine ce_iload_n dX8_goDeliver_44 rfl ?_
      refine ce_iload_n dX8_goDeliver_45 rfl ?_
      refine ce_cSp dX8_goDeliver_46 hX8_hold kRX8_54 (m_X8_hold (i) (w)) rfl rfl (by decide) (Nat.le_of_ble_eq_true rfl) ?_
      refine ce_iconst (v := nI (2)) dX8_goDeliver_49 (by decide) ?_
      refine ce_iadd (z := nI (81 + 18 * i + 3 * w + 2)) dX8_goDeliver_50 (nI_add _ _) ?_
      refine ce_dup2 dX8_goDeliver_51 rfl rfl ?_
      refine ce_ialdv dX8_goDeliver_52 (hA).1 rfl (hA).2 (by omega) (by decide) (((rcg1).h2 (by omega) (by omega)).trans (congrArg nI (by rw [kv_up_ne (by decide), kb_de_8 hw (by omega), kv_lay_ne (by decide) (by decide)]))) ?_
      refine ce_iload dX8_goDeliver_53 rfl ?_
      refine ce_iadd (z := nI (F 9 (i * 6 + w) + (F 8 (i * 6 + w)))) dX8_goDeliver_55 (nI_add _ _) ?_
      refine ce_iast dX8_goDeliver_56 (hA).1 rfl (hA).2 (by omega) (by decide) ?_
      generalize hcg2 : ce_up cg1 (r) (81 + 18 * i + 3 * w + 2) (nI (F 9 (i * 6 + w) + (F 8 (i * 6 + w)))) = cg2
      have rcg2 : cr_row (cg2 (r)) (kv_up (kv_up (kb_de w i (kv_lay w 8 (ce_sum (fun m => F 8 (m * 6 + w)) (F 0 0)) F)) 8 (i * 6 + w) (0)) 9 (i * 6 + w) (F 9 (i * 6 + w) + (F 8 (i * 6 + w)))) (kb_deO F w i O) := by rw [← hcg2, ce_up_eq]; exact (rcg1).uh2 (by omega) (by omega) (F 9 (i * 6 + w) + (F 8 (i * 6 + w)))
      have fcg2 : ∀ x, x ≠ r → cg2 x = g0 x := fun x hx => by rw [← hcg2]; exact (ce_up_ne _ _ _ hx).trans (fcg1 x hx)
      refine ce_aload_n dX8_goDeliver_57 rfl ?_
      refine ce_iload_n dX8_goDeliver_58 rfl ?_
      refine ce_cSp dX8_goDeliver_59 hX8_memberAt kRX8_83 (m_X8_memberAt (i)) rfl rfl (by decide) (Nat.le_of_ble_eq_true rfl) ?_
      refine ce_iconst (v := nI (1)) dX8_goDeliver_62 (by decide) ?_
      refine ce_iadd (z := nI (3 + 3 * i + 1)) dX8_goDeliver_63 (nI_add _ _) ?_
      refine ce_dup2 dX8_goDeliver_64 rfl rfl ?_
      refine ce_ialdv dX8_goDeliver_65 (hA).1 rfl (hA).2 (by omega) (by decide) ((rcg2).m1 (by omega)) ?_
      refine ce_aload_n dX8_goDeliver_66 rfl ?_
      refine ce_iload_n dX8_goDeliver_67 rfl ?_
      refine ce_cSp dX8_goDeliver_68 hX8_wineAt kRX8_62 (m_X8_wineAt (w)) rfl rfl (by decide) (Nat.le_of_ble_eq_true rfl) ?_
      refine ce_iconst (v := nI (0)) dX8_goDeliver_71 (by decide) ?_
      refine ce_iadd (z := nI (21 + 6 * w + 0)) dX8_goDeliver_72 (nI_add _ _) ?_
      refine ce_ialdv dX8_goDeliver_73 (hA).1 rfl (hA).2 (by omega) (by decide) (((rcg2).w0 (by omega)).trans (congrArg nI (by rw [kv_up_ne (by decide), kv_up_ne (by decide), kb_de_ne (by decide), kv_lay_ne (by decide) (by decide)]))) ?_
      refine ce_iload dX8_goDeliver_74 rfl ?_
      refine ce_imul (z := nI (F 2 w * F 8 (i * 6 + w))) dX8_goDeliver_76 (pk_mul _ _) ?_
      refine ce_aload_n dX8_goDeliver_77 rfl ?_
      refine ce_iload_n dX8_goDeliver_78 rfl ?_
      refine ce_cSp dX8_goDeliver_79 hX8_wineAt kRX8_62 (m_X8_wineAt (w)) rfl rfl (by decide) (Nat.le_of_ble_eq_true rfl) ?_
      refine ce_iconst (v := nI (0)) dX8_goDeliver_82 (by decide) ?_
      refine ce_iadd (z := nI (21 + 6 * w + 0)) dX8_goDeliver_83 (nI_add _ _) ?_
      refine ce_ialdv dX8_goDeliver_84 (hA).1 rfl (hA).2 (by omega) (by decide) (((rcg2).w0 (by omega)).trans (congrArg nI (by rw [kv_up_ne (by decide), kv_up_ne (by decide), kb_de_ne (by decide), kv_lay_ne (by decide) (by decide)]))) ?_
      refine ce_iload dX8_goDeliver_85 rfl ?_
      refine ce_imul (z := nI (F 2 w * F 8 (i * 6 + w))) dX8_goDeliver_87 (pk_mul _ _) ?_
      refine ce_cSp dX8_goDeliver_88 hX8_half kRX8_89 (m_X8_half (F 2 w * F 8 (i * 6 + w)) (by omega)) rfl rfl (by decide) (Nat.le_of_ble_eq_true rfl) ?_
      refine ce_isub (z := nI (F 2 w * F 8 (i * 6 + w) - (((F 2 w * F 8 (i * 6 + w)) + 1) / 2))) dX8_goDeliver_91 (pk_sub (by omega)) ?_
      refine ce_iadd (z := ((kb_deO F w i O) i) + (nI (F 2 w * F 8 (i * 6 + w) - (((F 2 w * F 8 (i * 6 + w)) + 1) / 2)))) dX8_goDeliver_92 rfl ?_
      refine ce_iast dX8_goDeliver_93 (hA).1 rfl (hA).2 (by omega) (by decide) ?_
      generalize hcg3 : ce_up cg2 (r) (3 + 3 * i + 1) (((kb_deO F w i O) i) + (nI (F 2 w * F 8 (i * 6 + w) - (((F 2 w * F 8 (i * 6 + w)) + 1) / 2)))) = cg3
      have rcg3 : cr_row (cg3 (r)) (kv_up (kv_up (kb_de w i (kv_lay w 8 (ce_sum (fun m => F 8 (m * 6 + w)) (F 0 0)) F)) 8 (i * 6 + w) (0)) 9 (i * 6 + w) (F 9 (i * 6 + w) + (F 8 (i * 6 + w)))) (upd (kb_deO F w i O) i (((kb_deO F w i O) i) + (nI (F 2 w * F 8 (i * 6 + w) - (((F 2 w * F 8 (i * 6 + w)) + 1) / 2))))) := by rw [← hcg3, ce_up_eq]; exact (rcg2).um1 (by omega) (((kb_deO F w i O) i) + (nI (F 2 w * F 8 (i * 6 + w) - (((F 2 w * F 8 (i * 6 + w)) + 1) / 2))))
      have fcg3 : ∀ x, x ≠ r → cg3 x = g0 x := fun x hx => by rw [← hcg3]; exact (ce_up_ne _ _ _ hx).trans (fcg2 x hx)
      refine ce_iinc (v := nI (i + 1)) dX8_goDeliver_94 rfl (ce_inc1 _) (Nat.le_of_ble_eq_true rfl) rfl ?_
      refine ce_goto (tgt := 15) dX8_goDeliver_97 (by decide) ?_
      refine ce_drop (L' := [some (.ref (r)), some (.int (nI (w))), some (.int (nI ((ce_sum (fun m => F 8 (m * 6 + w)) (F 0 0))))), some (.int (nI (i + 1))), none]) (ce_le_s rfl (ce_le_s rfl (ce_le_s rfl (ce_le_s rfl (ce_le_n ce_le_e))))) ?_
      have eF : (kv_up (kv_up (kb_de w i (kv_lay w 8 (ce_sum (fun m => F 8 (m * 6 + w)) (F 0 0)) F)) 8 (i * 6 + w) (0)) 9 (i * 6 + w) (F 9 (i * 6 + w) + (F 8 (i * 6 + w)))) = kb_de w (i + 1) (kv_lay w 8 (ce_sum (fun m => F 8 (m * 6 + w)) (F 0 0)) F) := by
        show _ = kv_up (kv_up (kb_de w i (kv_lay w 8 (ce_sum (fun m => F 8 (m * 6 + w)) (F 0 0)) F)) 8 _ 0) 9 _ ((kv_lay w 8 (ce_sum (fun m => F 8 (m * 6 + w)) (F 0 0)) F) 9 (i * 6 + w) + (kv_lay w 8 (ce_sum (fun m => F 8 (m * 6 + w)) (F 0 0)) F) 8 (i * 6 + w))
        rw [kv_lay_ne (a := 9) (by decide) (by decide), kv_lay_ne (a := 8) (by decide) (by decide)]
      have eO := kb_dend (F := F) (w := w) (n := i) (O := O)
      exact ih (i + 1) cg3 (by omega) (by omega) (by have := rcg3; rw [eF, eO] at this; exact this) fcg3
set_option maxHeartbeats 2000000 in
set_option maxRecDepth 20000 in
theorem m_X8_goDeliver {σ : ce_S} {g0 : ce_D} (r : Nat) (F : ce_V) (O : Nat → Int32) (hA : ce_LA σ 10 r 189) (w : Nat) (hw : w < 6) (h6 : F 0 0 ≤ 6) (h2 : F 2 w ≤ 99) (h8 : ∀ i, F 8 i ≤ 60) (hr : cr_row (g0 r) F O) (hk : kv_rk F) (hle : (ce_sum (fun m => F 8 (m * 6 + w)) (F 0 0)) ≤ ce_sum (kv_room F w) (F 0 2)) (hl9 : (ce_sum (fun m => F 8 (m * 6 + w)) (F 0 0)) ≤ 1000) : ce_CT (ce_r 4) mX8_goDeliver [.ref (r), .int (nI (w))] σ g0 (ce_rv σ (fun z9 g1 => z9 = nI (ce_sum (fun m => F 8 (m * 6 + w)) (F 0 0)) ∧ cr_row (g1 r) (kb_del w F) (kb_deO F w (F 0 0) O) ∧ ∀ x, x ≠ r → g1 x = g0 x)) ce_no := by
  have h8b := hk.1
  refine ce_enter (by decide) rfl (Nat.le_of_ble_eq_true rfl) (L := [some (.ref (r)), some (.int (nI (w))), none, none, none]) rfl ?_
  refine ce_aload_n dX8_goDeliver_0 rfl ?_
  refine ce_iload_n dX8_goDeliver_1 rfl ?_
  refine ce_iconst (v := nI (1)) dX8_goDeliver_2 (by decide) ?_
  refine ce_cSp dX8_goDeliver_3 hX8_allOf kRX8_95 (m_X8_allOf1 (r) F O ⟨(hA).1, (hA).2⟩ hr (w) h6 hw) rfl rfl (by decide) (Nat.le_of_ble_eq_true rfl) ?_
  refine ce_istore_n dX8_goDeliver_6 (Nat.le_of_ble_eq_true rfl) rfl ?_
  refine ce_aload_n dX8_goDeliver_7 rfl ?_
  refine ce_iload_n dX8_goDeliver_8 rfl ?_
  refine ce_iload_n dX8_goDeliver_9 rfl ?_
  refine ce_cSu dX8_goDeliver_10 hX8_lay kRX8_99 (m_X8_lay (r) F O ⟨(hA).1, (hA).2⟩ hr (w) (ce_sum (fun m => F 8 (m * 6 + w)) (F 0 0)) hw hk hle hl9) rfl rfl (by decide) (Nat.le_of_ble_eq_true rfl) (fun cg1 hcg1 => ?_)
  refine ce_iconst (v := nI (0)) dX8_goDeliver_13 (by decide) ?_
  refine ce_istore_n dX8_goDeliver_14 (Nat.le_of_ble_eq_true rfl) rfl ?_
  have e0 : kb_deO F w 0 O = O := by funext m; exact if_neg (Nat.not_lt_zero m)
  exact w_X8_goDeliver r F O hA w hw h6 h2 h8 (F 0 0 + 1) 0 cg1 (by omega) (by omega) (by rw [e0]; exact hcg1.1) (fun x hx => hcg1.2 x hx)
set_option maxHeartbeats 2000000 in
set_option maxRecDepth 20000 in
theorem m_X8_goDrink {σ : ce_S} {g0 : ce_D} (r : Nat) (F : ce_V) (O : Nat → Int32) (hA : ce_LA σ 10 r 189) (hr : cr_row (g0 r) F O) (m w n : Nat) (hm : m < 6) (hw : w < 6) (hk : kv_rk F) (hle : n ≤ kv_bs F w) (hn : n ≤ 1000) (h9 : n ≤ F 9 (m * 6 + w)) : ce_CT (ce_r 3) mX8_goDrink [.ref (r), .int (nI (m)), .int (nI (w)), .int (nI (n))] σ g0 (ce_uv σ (fun g1 => cr_row (g1 r) (kv_up (kv_up (kv_up (kv_take w 8 n F) 9 (m * 6 + w) (F 9 (m * 6 + w) - n)) 15 w (F 15 w + n)) 14 m (F 14 m + n)) O ∧ ∀ x, x ≠ r → g1 x = g0 x)) ce_no := by
  refine ce_enter (by decide) rfl (Nat.le_of_ble_eq_true rfl) (L := [some (.ref (r)), some (.int (nI (m))), some (.int (nI (w))), some (.int (nI (n)))]) rfl ?_
  refine ce_aload_n dX8_goDrink_0 rfl ?_
  refine ce_iload_n dX8_goDrink_1 rfl ?_
  refine ce_iload_n dX8_goDrink_2 rfl ?_
  refine ce_cSu dX8_goDrink_3 hX8_take kRX8_103 (m_X8_take (r) F O ⟨(hA).1, (hA).2⟩ hr (w) (n) hw hk hle hn) rfl rfl (by decide) (Nat.le_of_ble_eq_true rfl) (fun cg1 hcg1 => ?_)
  refine ce_aload_n dX8_goDrink_6 rfl ?_
  refine ce_iload_n dX8_goDrink_7 rfl ?_
  refine ce_iload_n dX8_goDrink_8 rfl ?_
  refine ce_cSp dX8_goDrink_9 hX8_hold kRX8_54 (m_X8_hold (m) (w)) rfl rfl (by decide) (Nat.le_of_ble_eq_true rfl) ?_
  refine ce_iconst (v := nI (2)) dX8_goDrink_12 (by decide) ?_
  refine ce_iadd (z := nI (81 + 18 * m + 3 * w + 2)) dX8_goDrink_13 (nI_add _ _) ?_
  refine ce_dup2 dX8_goDrink_14 rfl rfl ?_
  refine ce_ialdv dX8_goDrink_15 (hA).1 rfl (hA).2 (by omega) (by decide) (((hcg1.1).h2 (by omega) (by omega)).trans (congrArg nI (by rw [kv_take_ne (by decide)]))) ?_
  refine ce_iload_n dX8_goDrink_16 rfl ?_
  refine ce_isub (z := nI (F 9 (m * 6 + w) - (n))) dX8_goDrink_17 (pk_sub (by omega)) ?_
  refine ce_iast dX8_goDrink_18 (hA).1 rfl (hA).2 (by omega) (by decide) ?_
  generalize hcg2 : ce_up cg1 (r) (81 + 18 * m + 3 * w + 2) (nI (F 9 (m * 6 + w) - (n))) = cg2
  have rcg2 : cr_row (cg2 (r)) (kv_up (kv_take w 8 n F) 9 (m * 6 + w) (F 9 (m * 6 + w) - (n))) O := by rw [← hcg2, ce_up_eq]; exact (hcg1.1).uh2 (by omega) (by omega) (F 9 (m * 6 + w) - (n))
  have fcg2 : ∀ x, x ≠ r → cg2 x = g0 x := fun x hx => by rw [← hcg2]; exact (ce_up_ne _ _ _ hx).trans ((fun x hx => (hcg1.2 x hx).trans ((fun _ _ => rfl) x hx)) x hx)
  refine ce_aload_n dX8_goDrink_19 rfl ?_
  refine ce_iload_n dX8_goDrink_20 rfl ?_
  refine ce_cSp dX8_goDrink_21 hX8_wineAt kRX8_62 (m_X8_wineAt (w)) rfl rfl (by decide) (Nat.le_of_ble_eq_true rfl) ?_
  refine ce_iconst (v := nI (4)) dX8_goDrink_24 (by decide) ?_
  refine ce_iadd (z := nI (21 + 6 * w + 4)) dX8_goDrink_25 (nI_add _ _) ?_
  refine ce_dup2 dX8_goDrink_26 rfl rfl ?_
  refine ce_ialdv dX8_goDrink_27 (hA).1 rfl (hA).2 (by omega) (by decide) (((rcg2).w4 (by omega)).trans (congrArg nI (by rw [kv_up_ne (by decide), kv_take_ne (by decide)]))) ?_
  refine ce_iload_n dX8_goDrink_28 rfl ?_
  refine ce_iadd (z := nI (F 15 w + n)) dX8_goDrink_29 (nI_add _ _) ?_
  refine ce_iast dX8_goDrink_30 (hA).1 rfl (hA).2 (by omega) (by decide) ?_
  generalize hcg3 : ce_up cg2 (r) (21 + 6 * w + 4) (nI (F 15 w + n)) = cg3
  have rcg3 : cr_row (cg3 (r)) (kv_up (kv_up (kv_take w 8 n F) 9 (m * 6 + w) (F 9 (m * 6 + w) - (n))) 15 w (F 15 w + n)) O := by rw [← hcg3, ce_up_eq]; exact (rcg2).uw4 (by omega) (F 15 w + n)
  have fcg3 : ∀ x, x ≠ r → cg3 x = g0 x := fun x hx => by rw [← hcg3]; exact (ce_up_ne _ _ _ hx).trans (fcg2 x hx)
  refine ce_aload_n dX8_goDrink_31 rfl ?_
  refine ce_iload_n dX8_goDrink_32 rfl ?_
  refine ce_cSp dX8_goDrink_33 hX8_memberAt kRX8_83 (m_X8_memberAt (m)) rfl rfl (by decide) (Nat.le_of_ble_eq_true rfl) ?_
  refine ce_iconst (v := nI (2)) dX8_goDrink_36 (by decide) ?_
  refine ce_iadd (z := nI (3 + 3 * m + 2)) dX8_goDrink_37 (nI_add _ _) ?_
  refine ce_dup2 dX8_goDrink_38 rfl rfl ?_
  refine ce_ialdv dX8_goDrink_39 (hA).1 rfl (hA).2 (by omega) (by decide) (((rcg3).m2 (by omega)).trans (congrArg nI (by rw [kv_up_ne (by decide), kv_up_ne (by decide), kv_take_ne (by decide)]))) ?_
  refine ce_iload_n dX8_goDrink_40 rfl ?_
  refine ce_iadd (z := nI (F 14 m + n)) dX8_goDrink_41 (nI_add _ _) ?_
  refine ce_iast dX8_goDrink_42 (hA).1 rfl (hA).2 (by omega) (by decide) ?_
  generalize hcg4 : ce_up cg3 (r) (3 + 3 * m + 2) (nI (F 14 m + n)) = cg4
  have rcg4 : cr_row (cg4 (r)) (kv_up (kv_up (kv_up (kv_take w 8 n F) 9 (m * 6 + w) (F 9 (m * 6 + w) - (n))) 15 w (F 15 w + n)) 14 m (F 14 m + n)) O := by rw [← hcg4, ce_up_eq]; exact (rcg3).um2 (by omega) (F 14 m + n)
  have fcg4 : ∀ x, x ≠ r → cg4 x = g0 x := fun x hx => by rw [← hcg4]; exact (ce_up_ne _ _ _ hx).trans (fcg3 x hx)
  exact ce_vret dX8_goDrink_43 rfl (by decide) (by decide) ⟨rfl, rfl, rcg4, fcg4⟩
set_option maxHeartbeats 2000000 in
set_option maxRecDepth 20000 in
theorem m_X8_goGive {σ : ce_S} {g0 : ce_D} (r : Nat) (F : ce_V) (O : Nat → Int32) (hA : ce_LA σ 10 r 189) (hr : cr_row (g0 r) F O) (m o w n : Nat) (hm : m < 6) (ho : o < 6) (hw : w < 6) (hmo : m ≠ o) (h9 : n ≤ F 9 (m * 6 + w)) : ce_CT (ce_r 2) mX8_goGive [.ref (r), .int (nI (m)), .int (nI (o)), .int (nI (w)), .int (nI (n))] σ g0 (ce_uv σ (fun g1 => cr_row (g1 r) (kv_up (kv_up F 9 (m * 6 + w) (F 9 (m * 6 + w) - n)) 9 (o * 6 + w) (F 9 (o * 6 + w) + n)) O ∧ ∀ x, x ≠ r → g1 x = g0 x)) ce_no := by
  refine ce_enter (by decide) rfl (Nat.le_of_ble_eq_true rfl) (L := [some (.ref (r)), some (.int (nI (m))), some (.int (nI (o))), some (.int (nI (w))), some (.int (nI (n)))]) rfl ?_
  refine ce_aload_n dX8_goGive_0 rfl ?_
  refine ce_iload_n dX8_goGive_1 rfl ?_
  refine ce_iload_n dX8_goGive_2 rfl ?_
  refine ce_cSp dX8_goGive_3 hX8_hold kRX8_54 (m_X8_hold (m) (w)) rfl rfl (by decide) (Nat.le_of_ble_eq_true rfl) ?_
  refine ce_iconst (v := nI (2)) dX8_goGive_6 (by decide) ?_
  refine ce_iadd (z := nI (81 + 18 * m + 3 * w + 2)) dX8_goGive_7 (nI_add _ _) ?_
  refine ce_dup2 dX8_goGive_8 rfl rfl ?_
  refine ce_ialdv dX8_goGive_9 (hA).1 rfl (hA).2 (by omega) (by decide) ((hr).h2 (by omega) (by omega)) ?_
  refine ce_iload dX8_goGive_10 rfl ?_
  refine ce_isub (z := nI (F 9 (m * 6 + w) - (n))) dX8_goGive_12 (pk_sub (by omega)) ?_
  refine ce_iast dX8_goGive_13 (hA).1 rfl (hA).2 (by omega) (by decide) ?_
  generalize hcg1 : ce_up g0 (r) (81 + 18 * m + 3 * w + 2) (nI (F 9 (m * 6 + w) - (n))) = cg1
  have rcg1 : cr_row (cg1 (r)) (kv_up F 9 (m * 6 + w) (F 9 (m * 6 + w) - (n))) O := by rw [← hcg1, ce_up_eq]; exact (hr).uh2 (by omega) (by omega) (F 9 (m * 6 + w) - (n))
  have fcg1 : ∀ x, x ≠ r → cg1 x = g0 x := fun x hx => by rw [← hcg1]; exact (ce_up_ne _ _ _ hx).trans ((fun _ _ => rfl) x hx)
  refine ce_aload_n dX8_goGive_14 rfl ?_
  refine ce_iload_n dX8_goGive_15 rfl ?_
  refine ce_iload_n dX8_goGive_16 rfl ?_
  refine ce_cSp dX8_goGive_17 hX8_hold kRX8_54 (m_X8_hold (o) (w)) rfl rfl (by decide) (Nat.le_of_ble_eq_true rfl) ?_
  refine ce_iconst (v := nI (2)) dX8_goGive_20 (by decide) ?_
  refine ce_iadd (z := nI (81 + 18 * o + 3 * w + 2)) dX8_goGive_21 (nI_add _ _) ?_
  refine ce_dup2 dX8_goGive_22 rfl rfl ?_
  refine ce_ialdv dX8_goGive_23 (hA).1 rfl (hA).2 (by omega) (by decide) (((rcg1).h2 (by omega) (by omega)).trans (congrArg nI (by rw [kv_up_j (by omega)]))) ?_
  refine ce_iload dX8_goGive_24 rfl ?_
  refine ce_iadd (z := nI (F 9 (o * 6 + w) + n)) dX8_goGive_26 (nI_add _ _) ?_
  refine ce_iast dX8_goGive_27 (hA).1 rfl (hA).2 (by omega) (by decide) ?_
  generalize hcg2 : ce_up cg1 (r) (81 + 18 * o + 3 * w + 2) (nI (F 9 (o * 6 + w) + n)) = cg2
  have rcg2 : cr_row (cg2 (r)) (kv_up (kv_up F 9 (m * 6 + w) (F 9 (m * 6 + w) - (n))) 9 (o * 6 + w) (F 9 (o * 6 + w) + n)) O := by rw [← hcg2, ce_up_eq]; exact (rcg1).uh2 (by omega) (by omega) (F 9 (o * 6 + w) + n)
  have fcg2 : ∀ x, x ≠ r → cg2 x = g0 x := fun x hx => by rw [← hcg2]; exact (ce_up_ne _ _ _ hx).trans (fcg1 x hx)
  exact ce_vret dX8_goGive_28 rfl (by decide) (by decide) ⟨rfl, rfl, rcg2, fcg2⟩
set_option maxHeartbeats 2000000 in
set_option maxRecDepth 20000 in
theorem m_X8_goMove {σ : ce_S} {g0 : ce_D} (r : Nat) (F : ce_V) (O : Nat → Int32) (hA : ce_LA σ 10 r 189) (hr : cr_row (g0 r) F O) (x y n : Nat) (hx : x < 8) (hy : y < 8) (hxy : x ≠ y) (hn : n ≤ F 12 x) : ce_CT (ce_r 2) mX8_goMove [.ref (r), .int (nI (x)), .int (nI (y)), .int (nI (n))] σ g0 (ce_uv σ (fun g1 => cr_row (g1 r) (kv_up (kv_up (kv_up F 13 y (F 13 x)) 12 x (F 12 x - n)) 12 y (F 12 y + n)) O ∧ ∀ x, x ≠ r → g1 x = g0 x)) ce_no := by
  refine ce_enter (by decide) rfl (Nat.le_of_ble_eq_true rfl) (L := [some (.ref (r)), some (.int (nI (x))), some (.int (nI (y))), some (.int (nI (n)))]) rfl ?_
  refine ce_aload_n dX8_goMove_0 rfl ?_
  refine ce_iload_n dX8_goMove_1 rfl ?_
  refine ce_cSp dX8_goMove_2 hX8_binAt kRX8_58 (m_X8_binAt (y)) rfl rfl (by decide) (Nat.le_of_ble_eq_true rfl) ?_
  refine ce_iconst (v := nI (1)) dX8_goMove_5 (by decide) ?_
  refine ce_iadd (z := nI (57 + 3 * y + 1)) dX8_goMove_6 (nI_add _ _) ?_
  refine ce_aload_n dX8_goMove_7 rfl ?_
  refine ce_iload_n dX8_goMove_8 rfl ?_
  refine ce_cSp dX8_goMove_9 hX8_binAt kRX8_58 (m_X8_binAt (x)) rfl rfl (by decide) (Nat.le_of_ble_eq_true rfl) ?_
  refine ce_iconst (v := nI (1)) dX8_goMove_12 (by decide) ?_
  refine ce_iadd (z := nI (57 + 3 * x + 1)) dX8_goMove_13 (nI_add _ _) ?_
  refine ce_ialdv dX8_goMove_14 (hA).1 rfl (hA).2 (by omega) (by decide) ((hr).b1 (by omega)) ?_
  refine ce_iast dX8_goMove_15 (hA).1 rfl (hA).2 (by omega) (by decide) ?_
  generalize hcg1 : ce_up g0 (r) (57 + 3 * y + 1) (nI (F 13 x)) = cg1
  have rcg1 : cr_row (cg1 (r)) (kv_up F 13 y (F 13 x)) O := by rw [← hcg1, ce_up_eq]; exact (hr).ub1 (by omega) (F 13 x)
  have fcg1 : ∀ x, x ≠ r → cg1 x = g0 x := fun x hx => by rw [← hcg1]; exact (ce_up_ne _ _ _ hx).trans ((fun _ _ => rfl) x hx)
  refine ce_aload_n dX8_goMove_16 rfl ?_
  refine ce_iload_n dX8_goMove_17 rfl ?_
  refine ce_cSp dX8_goMove_18 hX8_binAt kRX8_58 (m_X8_binAt (x)) rfl rfl (by decide) (Nat.le_of_ble_eq_true rfl) ?_
  refine ce_iconst (v := nI (2)) dX8_goMove_21 (by decide) ?_
  refine ce_iadd (z := nI (57 + 3 * x + 2)) dX8_goMove_22 (nI_add _ _) ?_
  refine ce_dup2 dX8_goMove_23 rfl rfl ?_
  refine ce_ialdv dX8_goMove_24 (hA).1 rfl (hA).2 (by omega) (by decide) (((rcg1).b2 (by omega)).trans (congrArg nI (by rw [kv_up_ne (by decide)]))) ?_
  refine ce_iload_n dX8_goMove_25 rfl ?_
  refine ce_isub (z := nI (F 12 x - (n))) dX8_goMove_26 (pk_sub (by omega)) ?_
  refine ce_iast dX8_goMove_27 (hA).1 rfl (hA).2 (by omega) (by decide) ?_
  generalize hcg2 : ce_up cg1 (r) (57 + 3 * x + 2) (nI (F 12 x - (n))) = cg2
  have rcg2 : cr_row (cg2 (r)) (kv_up (kv_up F 13 y (F 13 x)) 12 x (F 12 x - (n))) O := by rw [← hcg2, ce_up_eq]; exact (rcg1).ub2 (by omega) (F 12 x - (n))
  have fcg2 : ∀ x, x ≠ r → cg2 x = g0 x := fun x hx => by rw [← hcg2]; exact (ce_up_ne _ _ _ hx).trans (fcg1 x hx)
  refine ce_aload_n dX8_goMove_28 rfl ?_
  refine ce_iload_n dX8_goMove_29 rfl ?_
  refine ce_cSp dX8_goMove_30 hX8_binAt kRX8_58 (m_X8_binAt (y)) rfl rfl (by decide) (Nat.le_of_ble_eq_true rfl) ?_
  refine ce_iconst (v := nI (2)) dX8_goMove_33 (by decide) ?_
  refine ce_iadd (z := nI (57 + 3 * y + 2)) dX8_goMove_34 (nI_add _ _) ?_
  refine ce_dup2 dX8_goMove_35 rfl rfl ?_
  refine ce_ialdv dX8_goMove_36 (hA).1 rfl (hA).2 (by omega) (by decide) (((rcg2).b2 (by omega)).trans (congrArg nI (by rw [kv_up_j (by omega), kv_up_ne (by decide)]))) ?_
  refine ce_iload_n dX8_goMove_37 rfl ?_
  refine ce_iadd (z := nI (F 12 y + n)) dX8_goMove_38 (nI_add _ _) ?_
  refine ce_iast dX8_goMove_39 (hA).1 rfl (hA).2 (by omega) (by decide) ?_
  generalize hcg3 : ce_up cg2 (r) (57 + 3 * y + 2) (nI (F 12 y + n)) = cg3
  have rcg3 : cr_row (cg3 (r)) (kv_up (kv_up (kv_up F 13 y (F 13 x)) 12 x (F 12 x - (n))) 12 y (F 12 y + n)) O := by rw [← hcg3, ce_up_eq]; exact (rcg2).ub2 (by omega) (F 12 y + n)
  have fcg3 : ∀ x, x ≠ r → cg3 x = g0 x := fun x hx => by rw [← hcg3]; exact (ce_up_ne _ _ _ hx).trans (fcg2 x hx)
  exact ce_vret dX8_goMove_40 rfl (by decide) (by decide) ⟨rfl, rfl, rcg3, fcg3⟩
set_option maxHeartbeats 2000000 in
set_option maxRecDepth 20000 in
theorem m_X8_addMemberTo {σ : ce_S} {g0 : ce_D} (r : Nat) (F : ce_V) (O : Nat → Int32) (hA : ce_LA σ 10 r 189) (hr : cr_row (g0 r) F O) (p : Nat) (h : F 0 0 < 6) : ce_CT (ce_r 2) mX8_addMemberTo [.ref (r), .int (nI (p))] σ g0 (ce_uv σ (fun g1 => cr_row (g1 r) (kv_up (kv_up F 1 (F 0 0) p) 0 0 (F 0 0 + 1)) O ∧ ∀ x, x ≠ r → g1 x = g0 x)) ce_no := by
  refine ce_enter (by decide) rfl (Nat.le_of_ble_eq_true rfl) (L := [some (.ref (r)), some (.int (nI (p)))]) rfl ?_
  refine ce_aload_n dX8_addMemberTo_0 rfl ?_
  refine ce_aload_n dX8_addMemberTo_1 rfl ?_
  refine ce_iconst (v := nI (0)) dX8_addMemberTo_2 (by decide) ?_
  refine ce_ialdv dX8_addMemberTo_3 (hA).1 rfl (hA).2 (by omega) (by decide) ((hr).c0) ?_
  refine ce_cSp dX8_addMemberTo_4 hX8_memberAt kRX8_83 (m_X8_memberAt (F 0 0)) rfl rfl (by decide) (Nat.le_of_ble_eq_true rfl) ?_
  refine ce_iload_n dX8_addMemberTo_7 rfl ?_
  refine ce_iast dX8_addMemberTo_8 (hA).1 rfl (hA).2 (by omega) (by decide) ?_
  generalize hcg1 : ce_up g0 (r) (3 + 3 * (F 0 0)) (nI (p)) = cg1
  have rcg1 : cr_row (cg1 (r)) (kv_up F 1 (F 0 0) (p)) O := by rw [← hcg1, ce_up_eq]; exact (hr).um0 (by omega) (p)
  have fcg1 : ∀ x, x ≠ r → cg1 x = g0 x := fun x hx => by rw [← hcg1]; exact (ce_up_ne _ _ _ hx).trans ((fun _ _ => rfl) x hx)
  refine ce_aload_n dX8_addMemberTo_9 rfl ?_
  refine ce_iconst (v := nI (0)) dX8_addMemberTo_10 (by decide) ?_
  refine ce_dup2 dX8_addMemberTo_11 rfl rfl ?_
  refine ce_ialdv dX8_addMemberTo_12 (hA).1 rfl (hA).2 (by omega) (by decide) (((rcg1).c0).trans (congrArg nI (by rw [kv_up_ne (by decide)]))) ?_
  refine ce_iconst (v := nI (1)) dX8_addMemberTo_13 (by decide) ?_
  refine ce_iadd (z := nI (F 0 0 + 1)) dX8_addMemberTo_14 (nI_add _ _) ?_
  refine ce_iast dX8_addMemberTo_15 (hA).1 rfl (hA).2 (by omega) (by decide) ?_
  generalize hcg2 : ce_up cg1 (r) (0) (nI (F 0 0 + 1)) = cg2
  have rcg2 : cr_row (cg2 (r)) (kv_up (kv_up F 1 (F 0 0) (p)) 0 0 (F 0 0 + 1)) O := by rw [← hcg2, ce_up_eq]; exact (rcg1).uc0  (F 0 0 + 1)
  have fcg2 : ∀ x, x ≠ r → cg2 x = g0 x := fun x hx => by rw [← hcg2]; exact (ce_up_ne _ _ _ hx).trans (fcg1 x hx)
  exact ce_vret dX8_addMemberTo_16 rfl (by decide) (by decide) ⟨rfl, rfl, rcg2, fcg2⟩
set_option maxHeartbeats 2000000 in
set_option maxRecDepth 20000 in
theorem m_X8_addWineTo {σ : ce_S} {g0 : ce_D} (r : Nat) (F : ce_V) (O : Nat → Int32) (hA : ce_LA σ 10 r 189) (hr : cr_row (g0 r) F O) (p n : Nat) (h : F 0 1 < 6) : ce_CT (ce_r 2) mX8_addWineTo [.ref (r), .int (nI (p)), .int (nI (n))] σ g0 (ce_uv σ (fun g1 => cr_row (g1 r) (kv_up (kv_up (kv_up (kv_up F 2 (F 0 1) p) 3 (F 0 1) n) 4 (F 0 1) n) 0 1 (F 0 1 + 1)) O ∧ ∀ x, x ≠ r → g1 x = g0 x)) ce_no := by
  refine ce_enter (by decide) rfl (Nat.le_of_ble_eq_true rfl) (L := [some (.ref (r)), some (.int (nI (p))), some (.int (nI (n))), none]) rfl ?_
  refine ce_aload_n dX8_addWineTo_0 rfl ?_
  refine ce_iconst (v := nI (1)) dX8_addWineTo_1 (by decide) ?_
  refine ce_ialdv dX8_addWineTo_2 (hA).1 rfl (hA).2 (by omega) (by decide) ((hr).c1) ?_
  refine ce_cSp dX8_addWineTo_3 hX8_wineAt kRX8_62 (m_X8_wineAt (F 0 1)) rfl rfl (by decide) (Nat.le_of_ble_eq_true rfl) ?_
  refine ce_istore_n dX8_addWineTo_6 (Nat.le_of_ble_eq_true rfl) rfl ?_
  refine ce_aload_n dX8_addWineTo_7 rfl ?_
  refine ce_iload_n dX8_addWineTo_8 rfl ?_
  refine ce_iconst (v := nI (0)) dX8_addWineTo_9 (by decide) ?_
  refine ce_iadd (z := nI (21 + 6 * (F 0 1) + 0)) dX8_addWineTo_10 (nI_add _ _) ?_
  refine ce_iload_n dX8_addWineTo_11 rfl ?_
  refine ce_iast dX8_addWineTo_12 (hA).1 rfl (hA).2 (by omega) (by decide) ?_
  generalize hcg1 : ce_up g0 (r) (21 + 6 * (F 0 1) + 0) (nI (p)) = cg1
  have rcg1 : cr_row (cg1 (r)) (kv_up F 2 (F 0 1) (p)) O := by rw [← hcg1, ce_up_eq]; exact (hr).uw0 (by omega) (p)
  have fcg1 : ∀ x, x ≠ r → cg1 x = g0 x := fun x hx => by rw [← hcg1]; exact (ce_up_ne _ _ _ hx).trans ((fun _ _ => rfl) x hx)
  refine ce_aload_n dX8_addWineTo_13 rfl ?_
  refine ce_iload_n dX8_addWineTo_14 rfl ?_
  refine ce_iconst (v := nI (1)) dX8_addWineTo_15 (by decide) ?_
  refine ce_iadd (z := nI (21 + 6 * (F 0 1) + 1)) dX8_addWineTo_16 (nI_add _ _) ?_
  refine ce_iload_n dX8_addWineTo_17 rfl ?_
  refine ce_iast dX8_addWineTo_18 (hA).1 rfl (hA).2 (by omega) (by decide) ?_
  generalize hcg2 : ce_up cg1 (r) (21 + 6 * (F 0 1) + 1) (nI (n)) = cg2
  have rcg2 : cr_row (cg2 (r)) (kv_up (kv_up F 2 (F 0 1) (p)) 3 (F 0 1) (n)) O := by rw [← hcg2, ce_up_eq]; exact (rcg1).uw1 (by omega) (n)
  have fcg2 : ∀ x, x ≠ r → cg2 x = g0 x := fun x hx => by rw [← hcg2]; exact (ce_up_ne _ _ _ hx).trans (fcg1 x hx)
  refine ce_aload_n dX8_addWineTo_19 rfl ?_
  refine ce_iload_n dX8_addWineTo_20 rfl ?_
  refine ce_iconst (v := nI (2)) dX8_addWineTo_21 (by decide) ?_
  refine ce_iadd (z := nI (21 + 6 * (F 0 1) + 2)) dX8_addWineTo_22 (nI_add _ _) ?_
  refine ce_iload_n dX8_addWineTo_23 rfl ?_
  refine ce_iast dX8_addWineTo_24 (hA).1 rfl (hA).2 (by omega) (by decide) ?_
  generalize hcg3 : ce_up cg2 (r) (21 + 6 * (F 0 1) + 2) (nI (n)) = cg3
  have rcg3 : cr_row (cg3 (r)) (kv_up (kv_up (kv_up F 2 (F 0 1) (p)) 3 (F 0 1) (n)) 4 (F 0 1) (n)) O := by rw [← hcg3, ce_up_eq]; exact (rcg2).uw2 (by omega) (n)
  have fcg3 : ∀ x, x ≠ r → cg3 x = g0 x := fun x hx => by rw [← hcg3]; exact (ce_up_ne _ _ _ hx).trans (fcg2 x hx)
  refine ce_aload_n dX8_addWineTo_25 rfl ?_
  refine ce_iconst (v := nI (1)) dX8_addWineTo_26 (by decide) ?_
  refine ce_dup2 dX8_addWineTo_27 rfl rfl ?_
  refine ce_ialdv dX8_addWineTo_28 (hA).1 rfl (hA).2 (by omega) (by decide) (((rcg3).c1).trans (congrArg nI (by rw [kv_up_ne (by decide), kv_up_ne (by decide), kv_up_ne (by decide)]))) ?_
  refine ce_iconst (v := nI (1)) dX8_addWineTo_29 (by decide) ?_
  refine ce_iadd (z := nI (F 0 1 + 1)) dX8_addWineTo_30 (nI_add _ _) ?_
  refine ce_iast dX8_addWineTo_31 (hA).1 rfl (hA).2 (by omega) (by decide) ?_
  generalize hcg4 : ce_up cg3 (r) (1) (nI (F 0 1 + 1)) = cg4
  have rcg4 : cr_row (cg4 (r)) (kv_up (kv_up (kv_up (kv_up F 2 (F 0 1) (p)) 3 (F 0 1) (n)) 4 (F 0 1) (n)) 0 1 (F 0 1 + 1)) O := by rw [← hcg4, ce_up_eq]; exact (rcg3).uc1  (F 0 1 + 1)
  have fcg4 : ∀ x, x ≠ r → cg4 x = g0 x := fun x hx => by rw [← hcg4]; exact (ce_up_ne _ _ _ hx).trans (fcg3 x hx)
  exact ce_vret dX8_addWineTo_32 rfl (by decide) (by decide) ⟨rfl, rfl, rcg4, fcg4⟩
set_option maxHeartbeats 2000000 in
set_option maxRecDepth 20000 in
theorem m_X8_addBinTo {σ : ce_S} {g0 : ce_D} (r : Nat) (F : ce_V) (O : Nat → Int32) (hA : ce_LA σ 10 r 189) (hr : cr_row (g0 r) F O) (p : Nat) (h : F 0 2 < 8) : ce_CT (ce_r 2) mX8_addBinTo [.ref (r), .int (nI (p))] σ g0 (ce_uv σ (fun g1 => cr_row (g1 r) (kv_up (kv_up F 11 (F 0 2) p) 0 2 (F 0 2 + 1)) O ∧ ∀ x, x ≠ r → g1 x = g0 x)) ce_no := by
  refine ce_enter (by decide) rfl (Nat.le_of_ble_eq_true rfl) (L := [some (.ref (r)), some (.int (nI (p)))]) rfl ?_
  refine ce_aload_n dX8_addBinTo_0 rfl ?_
  refine ce_aload_n dX8_addBinTo_1 rfl ?_
  refine ce_iconst (v := nI (2)) dX8_addBinTo_2 (by decide) ?_
  refine ce_ialdv dX8_addBinTo_3 (hA).1 rfl (hA).2 (by omega) (by decide) ((hr).c2) ?_
  refine ce_cSp dX8_addBinTo_4 hX8_binAt kRX8_58 (m_X8_binAt (F 0 2)) rfl rfl (by decide) (Nat.le_of_ble_eq_true rfl) ?_
  refine ce_iload_n dX8_addBinTo_7 rfl ?_
  refine ce_iast dX8_addBinTo_8 (hA).1 rfl (hA).2 (by omega) (by decide) ?_
  generalize hcg1 : ce_up g0 (r) (57 + 3 * (F 0 2)) (nI (p)) = cg1
  have rcg1 : cr_row (cg1 (r)) (kv_up F 11 (F 0 2) (p)) O := by rw [← hcg1, ce_up_eq]; exact (hr).ub0 (by omega) (p)
  have fcg1 : ∀ x, x ≠ r → cg1 x = g0 x := fun x hx => by rw [← hcg1]; exact (ce_up_ne _ _ _ hx).trans ((fun _ _ => rfl) x hx)
  refine ce_aload_n dX8_addBinTo_9 rfl ?_
  refine ce_iconst (v := nI (2)) dX8_addBinTo_10 (by decide) ?_
  refine ce_dup2 dX8_addBinTo_11 rfl rfl ?_
  refine ce_ialdv dX8_addBinTo_12 (hA).1 rfl (hA).2 (by omega) (by decide) (((rcg1).c2).trans (congrArg nI (by rw [kv_up_ne (by decide)]))) ?_
  refine ce_iconst (v := nI (1)) dX8_addBinTo_13 (by decide) ?_
  refine ce_iadd (z := nI (F 0 2 + 1)) dX8_addBinTo_14 (nI_add _ _) ?_
  refine ce_iast dX8_addBinTo_15 (hA).1 rfl (hA).2 (by omega) (by decide) ?_
  generalize hcg2 : ce_up cg1 (r) (2) (nI (F 0 2 + 1)) = cg2
  have rcg2 : cr_row (cg2 (r)) (kv_up (kv_up F 11 (F 0 2) (p)) 0 2 (F 0 2 + 1)) O := by rw [← hcg2, ce_up_eq]; exact (rcg1).uc2  (F 0 2 + 1)
  have fcg2 : ∀ x, x ≠ r → cg2 x = g0 x := fun x hx => by rw [← hcg2]; exact (ce_up_ne _ _ _ hx).trans (fcg1 x hx)
  exact ce_vret dX8_addBinTo_16 rfl (by decide) (by decide) ⟨rfl, rfl, rcg2, fcg2⟩
def kb_cor (F : ce_V) (m w : Nat) : ce_V := if 0 < F 4 w then kv_lay w 8 1 (kv_up (kv_up (kv_take w 8 1 F) 6 w (F 6 w + 1)) 4 w (F 4 w - 1)) else kv_up (kv_up (kv_take w 8 1 F) 6 w (F 6 w + 1)) 9 (m * 6 + w) (F 9 (m * 6 + w) - 1)
def kb_corO (F : ce_V) (m w : Nat) (O : Nat → Int32) : Nat → Int32 := if 0 < F 4 w then O else upd O m (O m - nI (F 2 w))
set_option maxHeartbeats 2000000 in
set_option maxRecDepth 20000 in
theorem m_X8_goCork {σ : ce_S} {g0 : ce_D} (r : Nat) (F : ce_V) (O : Nat → Int32) (hA : ce_LA σ 10 r 189) (hr : cr_row (g0 r) F O) (m w : Nat) (hm : m < 6) (hw : w < 6) (hk : kv_rk F) (hle : 1 ≤ kv_bs F w) (h9 : 1 ≤ F 9 (m * 6 + w)) (h4 : F 4 w ≤ 60) (hk4 : kv_rk (kv_up (kv_up (kv_take w 8 1 F) 6 w (F 6 w + 1)) 4 w (F 4 w - 1))) (hle4 : 1 ≤ ce_sum (kv_room (kv_up (kv_up (kv_take w 8 1 F) 6 w (F 6 w + 1)) 4 w (F 4 w - 1)) w) (kv_up (kv_up (kv_take w 8 1 F) 6 w (F 6 w + 1)) 4 w (F 4 w - 1) 0 2)) : ce_CT (ce_r 4) mX8_goCork [.ref (r), .int (nI (m)), .int (nI (w))] σ g0 (ce_rv σ (fun z9 g1 => z9 = nI (if 0 < F 4 w then 1 else 0) ∧ cr_row (g1 r) (kb_cor F m w) (kb_corO F m w O) ∧ ∀ x, x ≠ r → g1 x = g0 x)) ce_no := by
  refine ce_enter (by decide) rfl (Nat.le_of_ble_eq_true rfl) (L := [some (.ref (r)), some (.int (nI (m))), some (.int (nI (w)))]) rfl ?_
  refine ce_aload_n dX8_goCork_0 rfl ?_
  refine ce_iload_n dX8_goCork_1 rfl ?_
  refine ce_iconst (v := nI (1)) dX8_goCork_2 (by decide) ?_
  refine ce_cSu dX8_goCork_3 hX8_take kRX8_103 (m_X8_take (r) F O ⟨(hA).1, (hA).2⟩ hr (w) (1) hw hk hle (by decide)) rfl rfl (by decide) (Nat.le_of_ble_eq_true rfl) (fun cg1 hcg1 => ?_)
  refine ce_aload_n dX8_goCork_6 rfl ?_
  refine ce_iload_n dX8_goCork_7 rfl ?_
  refine ce_cSp dX8_goCork_8 hX8_wineAt kRX8_62 (m_X8_wineAt (w)) rfl rfl (by decide) (Nat.le_of_ble_eq_true rfl) ?_
  refine ce_iconst (v := nI (5)) dX8_goCork_11 (by decide) ?_
  refine ce_iadd (z := nI (21 + 6 * w + 5)) dX8_goCork_12 (nI_add _ _) ?_
  refine ce_dup2 dX8_goCork_13 rfl rfl ?_
  refine ce_ialdv dX8_goCork_14 (hA).1 rfl (hA).2 (by omega) (by decide) (((hcg1.1).w5 (by omega)).trans (congrArg nI (by rw [kv_take_ne (by decide)]))) ?_
  refine ce_iconst (v := nI (1)) dX8_goCork_15 (by decide) ?_
  refine ce_iadd (z := nI (F 6 w + 1)) dX8_goCork_16 (nI_add _ _) ?_
  refine ce_iast dX8_goCork_17 (hA).1 rfl (hA).2 (by omega) (by decide) ?_
  generalize hcg2 : ce_up cg1 (r) (21 + 6 * w + 5) (nI (F 6 w + 1)) = cg2
  have rcg2 : cr_row (cg2 (r)) (kv_up (kv_take w 8 1 F) 6 w (F 6 w + 1)) O := by rw [← hcg2, ce_up_eq]; exact (hcg1.1).uw5 (by omega) (F 6 w + 1)
  have fcg2 : ∀ x, x ≠ r → cg2 x = g0 x := fun x hx => by rw [← hcg2]; exact (ce_up_ne _ _ _ hx).trans ((fun x hx => (hcg1.2 x hx).trans ((fun _ _ => rfl) x hx)) x hx)
  refine ce_aload_n dX8_goCork_18 rfl ?_
  refine ce_iload_n dX8_goCork_19 rfl ?_
  refine ce_cSp dX8_goCork_20 hX8_wineAt kRX8_62 (m_X8_wineAt (w)) rfl rfl (by decide) (Nat.le_of_ble_eq_true rfl) ?_
  refine ce_iconst (v := nI (2)) dX8_goCork_23 (by decide) ?_
  refine ce_iadd (z := nI (21 + 6 * w + 2)) dX8_goCork_24 (nI_add _ _) ?_
  refine ce_ialdv dX8_goCork_25 (hA).1 rfl (hA).2 (by omega) (by decide) (((rcg2).w2 (by omega)).trans (congrArg nI (by rw [kv_up_ne (by decide), kv_take_ne (by decide)]))) ?_
  refine ce_if_leN (tgt := 49) dX8_goCork_26 (by decide) rfl (by omega) (fun c_26 => ?_) (fun c_26 => ?_)
  · refine ce_aload_n dX8_goCork_49 rfl ?_
    refine ce_iload_n dX8_goCork_50 rfl ?_
    refine ce_iload_n dX8_goCork_51 rfl ?_
    refine ce_cSp dX8_goCork_52 hX8_hold kRX8_54 (m_X8_hold (m) (w)) rfl rfl (by decide) (Nat.le_of_ble_eq_true rfl) ?_
    refine ce_iconst (v := nI (2)) dX8_goCork_55 (by decide) ?_
    refine ce_iadd (z := nI (81 + 18 * m + 3 * w + 2)) dX8_goCork_56 (nI_add _ _) ?_
    refine ce_dup2 dX8_goCork_57 rfl rfl ?_
    refine ce_ialdv dX8_goCork_58 (hA).1 rfl (hA).2 (by omega) (by decide) (((rcg2).h2 (by omega) (by omega)).trans (congrArg nI (by rw [kv_up_ne (by decide), kv_take_ne (by decide)]))) ?_
    refine ce_iconst (v := nI (1)) dX8_goCork_59 (by decide) ?_
    refine ce_isub (z := nI (F 9 (m * 6 + w) - (1))) dX8_goCork_60 (pk_sub (by omega)) ?_
    refine ce_iast dX8_goCork_61 (hA).1 rfl (hA).2 (by omega) (by decide) ?_
    generalize hcg3 : ce_up cg2 (r) (81 + 18 * m + 3 * w + 2) (nI (F 9 (m * 6 + w) - (1))) = cg3
    have rcg3 : cr_row (cg3 (r)) (kv_up (kv_up (kv_take w 8 1 F) 6 w (F 6 w + 1)) 9 (m * 6 + w) (F 9 (m * 6 + w) - (1))) O := by rw [← hcg3, ce_up_eq]; exact (rcg2).uh2 (by omega) (by omega) (F 9 (m * 6 + w) - (1))
    have fcg3 : ∀ x, x ≠ r → cg3 x = g0 x := fun x hx => by rw [← hcg3]; exact (ce_up_ne _ _ _ hx).trans (fcg2 x hx)
    refine ce_aload_n dX8_goCork_62 rfl ?_
    refine ce_iload_n dX8_goCork_63 rfl ?_
    refine ce_cSp dX8_goCork_64 hX8_memberAt kRX8_83 (m_X8_memberAt (m)) rfl rfl (by decide) (Nat.le_of_ble_eq_true rfl) ?_
    refine ce_iconst (v := nI (1)) dX8_goCork_67 (by decide) ?_
    refine ce_iadd (z := nI (3 + 3 * m + 1)) dX8_goCork_68 (nI_add _ _) ?_
    refine ce_dup2 dX8_goCork_69 rfl rfl ?_
    refine ce_ialdv dX8_goCork_70 (hA).1 rfl (hA).2 (by omega) (by decide) ((rcg3).m1 (by omega)) ?_
    refine ce_aload_n dX8_goCork_71 rfl ?_
    refine ce_iload_n dX8_goCork_72 rfl ?_
    refine ce_cSp dX8_goCork_73 hX8_wineAt kRX8_62 (m_X8_wineAt (w)) rfl rfl (by decide) (Nat.le_of_ble_eq_true rfl) ?_
    refine ce_iconst (v := nI (0)) dX8_goCork_76 (by decide) ?_
    refine ce_iadd (z := nI (21 + 6 * w + 0)) dX8_goCork_77 (nI_add _ _) ?_
    refine ce_ialdv dX8_goCork_78 (hA).1 rfl (hA).2 (by omega) (by decide) (((rcg3).w0 (by omega)).trans (congrArg nI (by rw [kv_up_ne (by decide), kv_up_ne (by decide), kv_take_ne (by decide)]))) ?_
    refine ce_isub (z := (O m) - (nI (F 2 w))) dX8_goCork_79 rfl ?_
    refine ce_iast dX8_goCork_80 (hA).1 rfl (hA).2 (by omega) (by decide) ?_
    generalize hcg4 : ce_up cg3 (r) (3 + 3 * m + 1) ((O m) - (nI (F 2 w))) = cg4
    have rcg4 : cr_row (cg4 (r)) (kv_up (kv_up (kv_take w 8 1 F) 6 w (F 6 w + 1)) 9 (m * 6 + w) (F 9 (m * 6 + w) - (1))) (upd O m ((O m) - (nI (F 2 w)))) := by rw [← hcg4, ce_up_eq]; exact (rcg3).um1 (by omega) ((O m) - (nI (F 2 w)))
    have fcg4 : ∀ x, x ≠ r → cg4 x = g0 x := fun x hx => by rw [← hcg4]; exact (ce_up_ne _ _ _ hx).trans (fcg3 x hx)
    refine ce_iconst (v := nI (0)) dX8_goCork_81 (by decide) ?_
    refine ce_iret dX8_goCork_82 rfl rfl (by decide) (by decide) ?_
    unfold kb_cor kb_corO
    rw [if_neg (show ¬ 0 < F 4 w by omega), if_neg (show ¬ 0 < F 4 w by omega), if_neg (show ¬ 0 < F 4 w by omega)]
    exact ⟨_, rfl, rfl, rfl, rcg4, fcg4⟩
  · refine ce_aload_n dX8_goCork_29 rfl ?_
    refine ce_iload_n dX8_goCork_30 rfl ?_
    refine ce_cSp dX8_goCork_31 hX8_wineAt kRX8_62 (m_X8_wineAt (w)) rfl rfl (by decide) (Nat.le_of_ble_eq_true rfl) ?_
    refine ce_iconst (v := nI (2)) dX8_goCork_34 (by decide) ?_
    refine ce_iadd (z := nI (21 + 6 * w + 2)) dX8_goCork_35 (nI_add _ _) ?_
    refine ce_dup2 dX8_goCork_36 rfl rfl ?_
    refine ce_ialdv dX8_goCork_37 (hA).1 rfl (hA).2 (by omega) (by decide) (((rcg2).w2 (by omega)).trans (congrArg nI (by rw [kv_up_ne (by decide), kv_take_ne (by decide)]))) ?_
    refine ce_iconst (v := nI (1)) dX8_goCork_38 (by decide) ?_
    refine ce_isub (z := nI (F 4 w - (1))) dX8_goCork_39 (pk_sub (by omega)) ?_
    refine ce_iast dX8_goCork_40 (hA).1 rfl (hA).2 (by omega) (by decide) ?_
    generalize hcg3 : ce_up cg2 (r) (21 + 6 * w + 2) (nI (F 4 w - (1))) = cg3
    have rcg3 : cr_row (cg3 (r)) (kv_up (kv_up (kv_take w 8 1 F) 6 w (F 6 w + 1)) 4 w (F 4 w - (1))) O := by rw [← hcg3, ce_up_eq]; exact (rcg2).uw2 (by omega) (F 4 w - (1))
    have fcg3 : ∀ x, x ≠ r → cg3 x = g0 x := fun x hx => by rw [← hcg3]; exact (ce_up_ne _ _ _ hx).trans (fcg2 x hx)
    refine ce_aload_n dX8_goCork_41 rfl ?_
    refine ce_iload_n dX8_goCork_42 rfl ?_
    refine ce_iconst (v := nI (1)) dX8_goCork_43 (by decide) ?_
    refine ce_cSu dX8_goCork_44 hX8_lay kRX8_99 (m_X8_lay (r) (kv_up (kv_up (kv_take w 8 1 F) 6 w (F 6 w + 1)) 4 w (F 4 w - (1))) O ⟨(hA).1, (hA).2⟩ rcg3 (w) (1) hw hk4 hle4 (by decide)) rfl rfl (by decide) (Nat.le_of_ble_eq_true rfl) (fun cg4 hcg4 => ?_)
    refine ce_iconst (v := nI (1)) dX8_goCork_47 (by decide) ?_
    refine ce_iret dX8_goCork_48 rfl rfl (by decide) (by decide) ?_
    unfold kb_cor kb_corO
    rw [if_pos (show 0 < F 4 w by omega), if_pos (show 0 < F 4 w by omega), if_pos (show 0 < F 4 w by omega)]
    exact ⟨_, rfl, rfl, rfl, hcg4.1, (fun x hx => (hcg4.2 x hx).trans (fcg3 x hx))⟩
