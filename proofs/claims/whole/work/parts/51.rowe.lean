set_option maxHeartbeats 2000000 in
set_option maxRecDepth 20000 in
theorem m_X8_isAhead {σ : ce_S} {g : ce_D} (d r : Nat) (F : ce_V) (O : Nat → Int32) (hD : ce_LM σ d) (hA : ce_LA σ 10 r 189) (hr : cr_row (g r) F O) (G : Nat → Nat) (hg : ∀ m, m < 6 → g (d + 8) m = nI (G m)) (m c : Nat) (hm : m < 6) (hc : c < 6) (hp : ∀ m, F 1 m ≤ 999) (hG : ∀ m, G m ≤ 60) : ce_CT (ce_r 1) mX8_isAhead [.ref (d), .ref (r), .int (nI (m)), .int (nI (c))] σ g (ce_pv (if (F 1 c + 1) * (G m + 1) < (F 1 m + 1) * (G c + 1) then 1 else 0) σ g) ce_no := by
  have q1 : (F 1 m + 1) * (G c + 1) ≤ 1000 * 61 := Nat.mul_le_mul (by have := hp m; omega) (by have := hG c; omega)
  have q2 : (F 1 c + 1) * (G m + 1) ≤ 1000 * 61 := Nat.mul_le_mul (by have := hp c; omega) (by have := hG m; omega)
  refine ce_enter (by decide) rfl (Nat.le_of_ble_eq_true rfl) (L := [some (.ref (d)), some (.ref (r)), some (.int (nI (m))), some (.int (nI (c)))]) rfl ?_
  refine ce_aload_n dX8_isAhead_0 rfl ?_
  refine ce_iload_n dX8_isAhead_1 rfl ?_
  refine ce_cSp dX8_isAhead_2 hX8_memberAt kRX8_83 (m_X8_memberAt (m)) rfl rfl (by decide) (Nat.le_of_ble_eq_true rfl) ?_
  refine ce_ialdv dX8_isAhead_5 (hA).1 rfl (hA).2 (by omega) (by decide) ((hr).m0 (by omega)) ?_
  refine ce_iconst (v := nI (1)) dX8_isAhead_6 (by decide) ?_
  refine ce_iadd (z := nI (F 1 m + 1)) dX8_isAhead_7 (nI_add _ _) ?_
  refine ce_aload_n dX8_isAhead_8 rfl ?_
  refine ce_getR dX8_isAhead_9 fRX8_32 hD.1 hD.2.1.2.2.2.2.2.2.2.1 ?_
  refine ce_iload_n dX8_isAhead_12 rfl ?_
  refine ce_ialdv dX8_isAhead_13 (hD.2.2.2.2.2.2.2.2.2.1).1 rfl (hD.2.2.2.2.2.2.2.2.2.1).2 (by omega) (by decide) (hg _ (by omega)) ?_
  refine ce_iconst (v := nI (1)) dX8_isAhead_14 (by decide) ?_
  refine ce_iadd (z := nI (G c + 1)) dX8_isAhead_15 (nI_add _ _) ?_
  refine ce_imul (z := nI ((F 1 m + 1) * (G c + 1))) dX8_isAhead_16 (pk_mul _ _) ?_
  refine ce_aload_n dX8_isAhead_17 rfl ?_
  refine ce_iload_n dX8_isAhead_18 rfl ?_
  refine ce_cSp dX8_isAhead_19 hX8_memberAt kRX8_83 (m_X8_memberAt (c)) rfl rfl (by decide) (Nat.le_of_ble_eq_true rfl) ?_
  refine ce_ialdv dX8_isAhead_22 (hA).1 rfl (hA).2 (by omega) (by decide) ((hr).m0 (by omega)) ?_
  refine ce_iconst (v := nI (1)) dX8_isAhead_23 (by decide) ?_
  refine ce_iadd (z := nI (F 1 c + 1)) dX8_isAhead_24 (nI_add _ _) ?_
  refine ce_aload_n dX8_isAhead_25 rfl ?_
  refine ce_getR dX8_isAhead_26 fRX8_32 hD.1 hD.2.1.2.2.2.2.2.2.2.1 ?_
  refine ce_iload_n dX8_isAhead_29 rfl ?_
  refine ce_ialdv dX8_isAhead_30 (hD.2.2.2.2.2.2.2.2.2.1).1 rfl (hD.2.2.2.2.2.2.2.2.2.1).2 (by omega) (by decide) (hg _ (by omega)) ?_
  refine ce_iconst (v := nI (1)) dX8_isAhead_31 (by decide) ?_
  refine ce_iadd (z := nI (G m + 1)) dX8_isAhead_32 (nI_add _ _) ?_
  refine ce_imul (z := nI ((F 1 c + 1) * (G m + 1))) dX8_isAhead_33 (pk_mul _ _) ?_
  refine ce_icmp_leN (tgt := 41) dX8_isAhead_34 (by decide) rfl rfl (by omega) (by omega) (fun c_34 => ?_) (fun c_34 => ?_)
  · refine ce_iconst (v := nI (0)) dX8_isAhead_41 (by decide) ?_
    refine ce_iret dX8_isAhead_42 rfl (by first | rfl | decide | assumption) (by decide) (by decide) ?_
    exact ⟨congrArg (fun z => some (Value.int z)) ((if_neg (by omega)).symm), rfl, rfl⟩
  · refine ce_iconst (v := nI (1)) dX8_isAhead_37 (by decide) ?_
    refine ce_goto (tgt := 42) dX8_isAhead_38 (by decide) ?_
    refine ce_iret dX8_isAhead_42 rfl (by first | rfl | decide | assumption) (by decide) (by decide) ?_
    exact ⟨congrArg (fun z => some (Value.int z)) ((if_pos (by omega)).symm), rfl, rfl⟩
theorem cr_ih2 {P R : Prop} (p : P) (h : P → R) : R := h p
/-- what stays while bottles are shared out -/
def cr_sh (F T : ce_V) (w : Nat) : Prop := T 0 = F 0 ∧ T 1 = F 1 ∧ T 7 = F 7 ∧ T 4 w ≤ F 4 w ∧ (∀ m, T 8 (m * 6 + w) ≤ F 7 (m * 6 + w)) ∧ ∀ m, F 0 0 ≤ m → T 8 (m * 6 + w) = 0
theorem cr_sh_1 {F T : ce_V} {w m : Nat} (h : cr_sh F T w) (hw : w < 6) (hm : kv_next T w (T 0 0) = some m) : cr_sh F (kv_give1 T m w) w := by
  obtain ⟨h0, h1, h7, h4, h8, h9⟩ := h
  have hl := kv_next_lt hm
  unfold cr_sh kv_give1
  refine ⟨by rw [kv_up_ne (by decide), kv_up_ne (by decide)]; exact h0, by rw [kv_up_ne (by decide), kv_up_ne (by decide)]; exact h1, by rw [kv_up_ne (by decide), kv_up_ne (by decide)]; exact h7, by rw [kv_up_eq]; omega, fun j => ?_, fun j hj => ?_⟩
  · rw [kv_up_ne (by decide), kv_up_a, ← h7]
    split
    · rename_i e
      have ej : j = m := by omega
      subst ej
      omega
    · rw [h7]; exact h8 j
  · rw [kv_up_ne (by decide), kv_up_j (by rw [h0] at hl; omega)]; exact h9 j hj
theorem cr_give_8 {T : ce_V} {w m j : Nat} (hw : w < 6) : kv_give1 T m w 8 (j * 6 + w) = if j = m then T 8 (m * 6 + w) + 1 else T 8 (j * 6 + w) := by
  unfold kv_give1
  rw [kv_up_ne (by decide), kv_up_a]
  by_cases e : j = m
  · rw [if_pos e, e, if_pos rfl]
  · rw [if_neg e, if_neg (by omega)]
theorem cr_give_4 {T : ce_V} {w m : Nat} : kv_give1 T m w 4 w = T 4 w - 1 := by
  unfold kv_give1
  exact kv_up_eq
set_option maxHeartbeats 2000000 in
set_option maxRecDepth 20000 in
theorem w1_X8_layGot {σ : ce_S} {g : ce_D} (d r : Nat) (F : ce_V) (O : Nat → Int32) (hD : ce_LM σ d) (hA : ce_LA σ 10 r 189) (hr : cr_row (g r) F O) (w : Nat) (hw : w < 6) (h6 : F 0 0 ≤ 6) (hp : ∀ m, F 1 m ≤ 999) (h7 : ∀ i, F 7 i ≤ 60) (T : ce_V) (hS : cr_sh F T w) (hg : ∀ m, m < 6 → g (d + 8) m = nI (T 8 (m * 6 + w))) (l u : Nat) {Q : Option Value → ce_S → ce_D → Prop} {X : String → ce_S → ce_D → Prop} (kk : ce_WP (ce_r 2) mX8_layGot 0 0 124 [some (.ref (d)), some (.ref (r)), some (.int (nI (w))), some (.int (nI (l))), some (.int (nI (u))), some (.int (nI (1))), some (.int (ce_o (kv_next T w (F 0 0)))), none, none] [] σ g Q X) : ∀ (n9 i : Nat), F 0 0 - i < n9 → i ≤ F 0 0 → ce_WP (ce_r 2) mX8_layGot 0 0 52 [some (.ref (d)), some (.ref (r)), some (.int (nI (w))), some (.int (nI (l))), some (.int (nI (u))), some (.int (nI (1))), some (.int (ce_o (kv_next T w i))), some (.int (nI (i))), none] [] σ g Q X := by
  intro n9
  induction n9 with
  | zero =>
    intros
    omega
  | succ n9 ih =>
    intro i hm hi
    have hi8 := hS.2.2.2.2.1 i
    have hi7 := h7 (i * 6 + w)
    have e1 : T 1 = F 1 := hS.2.1
    have e7 : T 7 = F 7 := hS.2.2.1
    cases hp9 : kv_next T w i with
    | none =>
      show ce_WP (ce_r 2) mX8_layGot 0 0 52 [some (.ref (d)), some (.ref (r)), some (.int (nI (w))), some (.int (nI (l))), some (.int (nI (u))), some (.int (nI (1))), some (.int ((-99999))), some (.int (nI (i))), none] [] σ g Q X
      refine ce_iload dX8_layGot_52 rfl ?_
      refine ce_aload_n dX8_layGot_54 rfl ?_
      refine ce_iconst (v := nI (0)) dX8_layGot_55 (by decide) ?_
      refine ce_ialdv dX8_layGot_56 (hA).1 rfl (hA).2 (by omega) (by decide) ((hr).c0) ?_
      refine ce_icmp_geN (tgt := 124) dX8_layGot_57 (by decide) rfl rfl (by omega) (by omega) (fun c_57 => ?_) (fun c_57 => ?_)
      · refine ce_drop (L' := [some (.ref (d)), some (.ref (r)), some (.int (nI (w))), some (.int (nI (l))), some (.int (nI (u))), some (.int (nI (1))), some (.int ((-99999))), none, none]) (ce_le_s rfl (ce_le_s rfl (ce_le_s rfl (ce_le_s rfl (ce_le_s rfl (ce_le_s rfl (ce_le_s rfl (ce_le_n (ce_le_n ce_le_e))))))))) ?_
        rw [show i = F 0 0 by omega] at hp9
        rw [hp9] at kk
        exact kk
      · refine ce_aload_n dX8_layGot_60 rfl ?_
        refine ce_getR dX8_layGot_61 fRX8_32 hD.1 hD.2.1.2.2.2.2.2.2.2.1 ?_
        refine ce_iload dX8_layGot_64 rfl ?_
        refine ce_ialdv dX8_layGot_66 (hD.2.2.2.2.2.2.2.2.2.1).1 rfl (hD.2.2.2.2.2.2.2.2.2.1).2 (by omega) (by decide) (hg _ (by omega)) ?_
        refine ce_aload_n dX8_layGot_67 rfl ?_
        refine ce_iload dX8_layGot_68 rfl ?_
        refine ce_iload_n dX8_layGot_70 rfl ?_
        refine ce_cSp dX8_layGot_71 hX8_hold kRX8_54 (m_X8_hold (i) (w)) rfl rfl (by decide) (Nat.le_of_ble_eq_true rfl) ?_
        refine ce_ialdv dX8_layGot_74 (hA).1 rfl (hA).2 (by omega) (by decide) ((hr).h0 (by omega) (by omega)) ?_
        refine ce_icmp_geN (tgt := 82) dX8_layGot_75 (by decide) rfl rfl (by omega) (by omega) (fun c_75 => ?_) (fun c_75 => ?_)
        · refine ce_iconst (v := nI (0)) dX8_layGot_82 (by decide) ?_
          refine ce_istore dX8_layGot_83 (Nat.le_of_ble_eq_true rfl) rfl ?_
          refine ce_iload dX8_layGot_85 rfl ?_
          refine ce_if_eqN (tgt := 114) dX8_layGot_87 (by decide) rfl (by omega) (fun c_87 => ?_) (fun c_87 => ?_)
          · refine ce_iload dX8_layGot_114 rfl ?_
            refine ce_istore dX8_layGot_116 (Nat.le_of_ble_eq_true rfl) rfl ?_
            refine ce_iinc (v := nI (i + 1)) dX8_layGot_118 rfl (ce_inc1 _) (Nat.le_of_ble_eq_true rfl) rfl ?_
            refine ce_goto (tgt := 52) dX8_layGot_121 (by decide) ?_
            refine ce_drop (L' := [some (.ref (d)), some (.ref (r)), some (.int (nI (w))), some (.int (nI (l))), some (.int (nI (u))), some (.int (nI (1))), some (.int ((-99999))), some (.int (nI (i + 1))), none]) (ce_le_s rfl (ce_le_s rfl (ce_le_s rfl (ce_le_s rfl (ce_le_s rfl (ce_le_s rfl (ce_le_s rfl (ce_le_s rfl (ce_le_n ce_le_e))))))))) ?_
            have e9 : kv_next T w (i + 1) = none := by
              unfold kv_next
              rw [hp9, e1, e7]
              dsimp only
              (repeat' split) <;> first | rfl | (exfalso; omega)
            have e8 := ih (i + 1) (by omega) (by omega)
            rw [e9] at e8
            exact e8
          · omega
        · refine ce_iconst (v := nI (1)) dX8_layGot_78 (by decide) ?_
          refine ce_goto (tgt := 83) dX8_layGot_79 (by decide) ?_
          refine ce_istore dX8_layGot_83 (Nat.le_of_ble_eq_true rfl) rfl ?_
          refine ce_iload dX8_layGot_85 rfl ?_
          refine ce_if_eqN (tgt := 114) dX8_layGot_87 (by decide) rfl (by omega) (fun c_87 => ?_) (fun c_87 => ?_)
          · omega
          · refine ce_iload dX8_layGot_90 rfl ?_
            refine ce_ldc dX8_layGot_92 kRX8_65 ?_
            refine ce_icmp_eqI (p := (-99999)) (q := (-99999)) (tgt := 109) dX8_layGot_94 (by decide) (by decide) (by decide) (fun c_94 => ?_) (fun c_94 => ?_)
            · refine ce_iload dX8_layGot_109 rfl ?_
              refine ce_goto (tgt := 116) dX8_layGot_111 (by decide) ?_
              refine ce_istore dX8_layGot_116 (Nat.le_of_ble_eq_true rfl) rfl ?_
              refine ce_iinc (v := nI (i + 1)) dX8_layGot_118 rfl (ce_inc1 _) (Nat.le_of_ble_eq_true rfl) rfl ?_
              refine ce_goto (tgt := 52) dX8_layGot_121 (by decide) ?_
              refine ce_drop (L' := [some (.ref (d)), some (.ref (r)), some (.int (nI (w))), some (.int (nI (l))), some (.int (nI (u))), some (.int (nI (1))), some (.int (nI (i))), some (.int (nI (i + 1))), none]) (ce_le_s rfl (ce_le_s rfl (ce_le_s rfl (ce_le_s rfl (ce_le_s rfl (ce_le_s rfl (ce_le_s rfl (ce_le_s rfl (ce_le_n ce_le_e))))))))) ?_
              have e9 : kv_next T w (i + 1) = some (i) := by
                unfold kv_next
                rw [hp9, e1, e7]
                dsimp only
                (repeat' split) <;> first | rfl | (exfalso; omega)
              have e8 := ih (i + 1) (by omega) (by omega)
              rw [e9] at e8
              exact e8
            · omega
    | some o =>
      have hc := kv_next_lt hp9
      have ho8 := hS.2.2.2.2.1 o
      have ho7 := h7 (o * 6 + w)
      show ce_WP (ce_r 2) mX8_layGot 0 0 52 [some (.ref (d)), some (.ref (r)), some (.int (nI (w))), some (.int (nI (l))), some (.int (nI (u))), some (.int (nI (1))), some (.int (nI (o))), some (.int (nI (i))), none] [] σ g Q X
      refine ce_iload dX8_layGot_52 rfl ?_
      refine ce_aload_n dX8_layGot_54 rfl ?_
      refine ce_iconst (v := nI (0)) dX8_layGot_55 (by decide) ?_
      refine ce_ialdv dX8_layGot_56 (hA).1 rfl (hA).2 (by omega) (by decide) ((hr).c0) ?_
      refine ce_icmp_geN (tgt := 124) dX8_layGot_57 (by decide) rfl rfl (by omega) (by omega) (fun c_57 => ?_) (fun c_57 => ?_)
      · refine ce_drop (L' := [some (.ref (d)), some (.ref (r)), some (.int (nI (w))), some (.int (nI (l))), some (.int (nI (u))), some (.int (nI (1))), some (.int (nI (o))), none, none]) (ce_le_s rfl (ce_le_s rfl (ce_le_s rfl (ce_le_s rfl (ce_le_s rfl (ce_le_s rfl (ce_le_s rfl (ce_le_n (ce_le_n ce_le_e))))))))) ?_
        rw [show i = F 0 0 by omega] at hp9
        rw [hp9] at kk
        exact kk
      · refine ce_aload_n dX8_layGot_60 rfl ?_
        refine ce_getR dX8_layGot_61 fRX8_32 hD.1 hD.2.1.2.2.2.2.2.2.2.1 ?_
        refine ce_iload dX8_layGot_64 rfl ?_
        refine ce_ialdv dX8_layGot_66 (hD.2.2.2.2.2.2.2.2.2.1).1 rfl (hD.2.2.2.2.2.2.2.2.2.1).2 (by omega) (by decide) (hg _ (by omega)) ?_
        refine ce_aload_n dX8_layGot_67 rfl ?_
        refine ce_iload dX8_layGot_68 rfl ?_
        refine ce_iload_n dX8_layGot_70 rfl ?_
        refine ce_cSp dX8_layGot_71 hX8_hold kRX8_54 (m_X8_hold (i) (w)) rfl rfl (by decide) (Nat.le_of_ble_eq_true rfl) ?_
        refine ce_ialdv dX8_layGot_74 (hA).1 rfl (hA).2 (by omega) (by decide) ((hr).h0 (by omega) (by omega)) ?_
        refine ce_icmp_geN (tgt := 82) dX8_layGot_75 (by decide) rfl rfl (by omega) (by omega) (fun c_75 => ?_) (fun c_75 => ?_)
        · refine ce_iconst (v := nI (0)) dX8_layGot_82 (by decide) ?_
          refine ce_istore dX8_layGot_83 (Nat.le_of_ble_eq_true rfl) rfl ?_
          refine ce_iload dX8_layGot_85 rfl ?_
          refine ce_if_eqN (tgt := 114) dX8_layGot_87 (by decide) rfl (by omega) (fun c_87 => ?_) (fun c_87 => ?_)
          · refine ce_iload dX8_layGot_114 rfl ?_
            refine ce_istore dX8_layGot_116 (Nat.le_of_ble_eq_true rfl) rfl ?_
            refine ce_iinc (v := nI (i + 1)) dX8_layGot_118 rfl (ce_inc1 _) (Nat.le_of_ble_eq_true rfl) rfl ?_
            refine ce_goto (tgt := 52) dX8_layGot_121 (by decide) ?_
            refine ce_drop (L' := [some (.ref (d)), some (.ref (r)), some (.int (nI (w))), some (.int (nI (l))), some (.int (nI (u))), some (.int (nI (1))), some (.int (nI (o))), some (.int (nI (i + 1))), none]) (ce_le_s rfl (ce_le_s rfl (ce_le_s rfl (ce_le_s rfl (ce_le_s rfl (ce_le_s rfl (ce_le_s rfl (ce_le_s rfl (ce_le_n ce_le_e))))))))) ?_
            have e9 : kv_next T w (i + 1) = some (o) := by
              unfold kv_next
              rw [hp9, e1, e7]
              dsimp only
              (repeat' split) <;> first | rfl | (exfalso; omega)
            have e8 := ih (i + 1) (by omega) (by omega)
            rw [e9] at e8
            exact e8
          · omega
        · refine ce_iconst (v := nI (1)) dX8_layGot_78 (by decide) ?_
          refine ce_goto (tgt := 83) dX8_layGot_79 (by decide) ?_
          refine ce_istore dX8_layGot_83 (Nat.le_of_ble_eq_true rfl) rfl ?_
          refine ce_iload dX8_layGot_85 rfl ?_
          refine ce_if_eqN (tgt := 114) dX8_layGot_87 (by decide) rfl (by omega) (fun c_87 => ?_) (fun c_87 => ?_)
          · omega
          · refine ce_iload dX8_layGot_90 rfl ?_
            refine ce_ldc dX8_layGot_92 kRX8_65 ?_
            refine ce_icmp_eqI (p := ((o : Nat) : Int)) (q := (-99999)) (tgt := 109) dX8_layGot_94 (by decide) (nI_toInt (by omega)) (by decide) (fun c_94 => ?_) (fun c_94 => ?_)
            · omega
            · refine ce_aload_n dX8_layGot_97 rfl ?_
              refine ce_aload_n dX8_layGot_98 rfl ?_
              refine ce_iload dX8_layGot_99 rfl ?_
              refine ce_iload dX8_layGot_101 rfl ?_
              refine ce_cVp dX8_layGot_103 hX8_isAhead kRX8_80 (m_X8_isAhead d r F O hD hA hr (fun m => T 8 (m * 6 + w)) hg (i) (o) (by omega) (by omega) hp (fun m => by have := hS.2.2.2.2.1 m; have := h7 (m * 6 + w); omega)) rfl rfl hD.1 rfl (by decide) (Nat.le_of_ble_eq_true rfl) ?_
              refine ce_if_eqB (tgt := 114) dX8_layGot_106 (by decide) rfl (fun c_106 => ?_) (fun c_106 => ?_)
              · refine ce_iload dX8_layGot_114 rfl ?_
                refine ce_istore dX8_layGot_116 (Nat.le_of_ble_eq_true rfl) rfl ?_
                refine ce_iinc (v := nI (i + 1)) dX8_layGot_118 rfl (ce_inc1 _) (Nat.le_of_ble_eq_true rfl) rfl ?_
                refine ce_goto (tgt := 52) dX8_layGot_121 (by decide) ?_
                refine ce_drop (L' := [some (.ref (d)), some (.ref (r)), some (.int (nI (w))), some (.int (nI (l))), some (.int (nI (u))), some (.int (nI (1))), some (.int (nI (o))), some (.int (nI (i + 1))), none]) (ce_le_s rfl (ce_le_s rfl (ce_le_s rfl (ce_le_s rfl (ce_le_s rfl (ce_le_s rfl (ce_le_s rfl (ce_le_s rfl (ce_le_n ce_le_e))))))))) ?_
                have e9 : kv_next T w (i + 1) = some (o) := by
                  unfold kv_next
                  rw [hp9, e1, e7]
                  dsimp only
                  (repeat' split) <;> first | rfl | (exfalso; omega)
                have e8 := ih (i + 1) (by omega) (by omega)
                rw [e9] at e8
                exact e8
              · refine ce_iload dX8_layGot_109 rfl ?_
                refine ce_goto (tgt := 116) dX8_layGot_111 (by decide) ?_
                refine ce_istore dX8_layGot_116 (Nat.le_of_ble_eq_true rfl) rfl ?_
                refine ce_iinc (v := nI (i + 1)) dX8_layGot_118 rfl (ce_inc1 _) (Nat.le_of_ble_eq_true rfl) rfl ?_
                refine ce_goto (tgt := 52) dX8_layGot_121 (by decide) ?_
                refine ce_drop (L' := [some (.ref (d)), some (.ref (r)), some (.int (nI (w))), some (.int (nI (l))), some (.int (nI (u))), some (.int (nI (1))), some (.int (nI (i))), some (.int (nI (i + 1))), none]) (ce_le_s rfl (ce_le_s rfl (ce_le_s rfl (ce_le_s rfl (ce_le_s rfl (ce_le_s rfl (ce_le_s rfl (ce_le_s rfl (ce_le_n ce_le_e))))))))) ?_
                have e9 : kv_next T w (i + 1) = some (i) := by
                  unfold kv_next
                  rw [hp9, e1, e7]
                  dsimp only
                  (repeat' split) <;> first | rfl | (exfalso; omega)
                have e8 := ih (i + 1) (by omega) (by omega)
                rw [e9] at e8
                exact e8
set_option maxHeartbeats 2000000 in
set_option maxRecDepth 20000 in
theorem w_X8_layGot {σ : ce_S} {g0 : ce_D} (d r : Nat) (F : ce_V) (O : Nat → Int32) (hD : ce_LM σ d) (hA : ce_LA σ 10 r 189) (hr0 : cr_row (g0 r) F O) (hrd : r ≠ d + 8) (w : Nat) (hw : w < 6) (h6 : F 0 0 ≤ 6) (hp : ∀ m, F 1 m ≤ 999) (h7 : ∀ i, F 7 i ≤ 60) (h4 : F 4 w ≤ 60) : ∀ (n9 : Nat) (T : ce_V) (t : Nat) (g : ce_D), T 4 w < n9 → T 4 w ≤ t → kv_share w t T = kv_share w 60 F → cr_sh F T w → (∀ m, m < 6 → g (d + 8) m = nI (T 8 (m * 6 + w))) → (∀ x, x ≠ d + 8 → g x = g0 x) → ce_WP (ce_r 2) mX8_layGot 0 0 36 [some (.ref (d)), some (.ref (r)), some (.int (nI (w))), some (.int (nI (T 4 w))), some (.int (nI (F 4 w - T 4 w))), some (.int (nI (1))), none, none, none] [] σ g (ce_rv σ (fun z9 g1 => z9 = nI (F 4 w - kv_share w 60 F 4 w) ∧ cr_sh F (kv_share w 60 F) w ∧ (∀ m, m < 6 → g1 (d + 8) m = nI (kv_share w 60 F 8 (m * 6 + w))) ∧ ∀ x, x ≠ d + 8 → g1 x = g0 x)) ce_no := by
  intro n9
  induction n9 with
  | zero =>
    intros
    omega
  | succ n9 ih =>
    intro T t g hm ht hT hS hg hf
    have hr : cr_row (g r) F O := by rw [hf r hrd]; exact hr0
    by_cases h0 : T 4 w = 0
    · refine ce_iload dX8_layGot_36 rfl ?_
      refine ce_if_eqN (tgt := 163) dX8_layGot_38 (by decide) rfl (by omega) (fun c_38 => ?_) (fun c_38 => ?_)
      · omega
      · refine ce_iload_n dX8_layGot_41 rfl ?_
        refine ce_if_leN (tgt := 163) dX8_layGot_42 (by decide) rfl (by omega) (fun c_42 => ?_) (fun c_42 => ?_)
        · have eR : kv_share w 60 F = T := by rw [← hT, kv_share_z h0]
          refine ce_iload dX8_layGot_163 rfl ?_
          refine ce_iret dX8_layGot_165 rfl rfl (by decide) (by decide) ?_
          rw [eR]
          exact ⟨_, rfl, rfl, rfl, hS, hg, hf⟩
        · omega
    · have h8o := hS.2.2.2.1
      refine ce_iload dX8_layGot_36 rfl ?_
      refine ce_if_eqN (tgt := 163) dX8_layGot_38 (by decide) rfl (by omega) (fun c_38 => ?_) (fun c_38 => ?_)
      · omega
      · refine ce_iload_n dX8_layGot_41 rfl ?_
        refine ce_if_leN (tgt := 163) dX8_layGot_42 (by decide) rfl (by omega) (fun c_42 => ?_) (fun c_42 => ?_)
        · omega
        · refine ce_ldc dX8_layGot_45 kRX8_65 ?_
          refine ce_istore dX8_layGot_47 (Nat.le_of_ble_eq_true rfl) rfl ?_
          refine ce_iconst (v := nI (0)) dX8_layGot_49 (by decide) ?_
          refine ce_istore dX8_layGot_50 (Nat.le_of_ble_eq_true rfl) rfl ?_
          refine w1_X8_layGot d r F O hD hA hr w hw h6 hp h7 T hS hg (T 4 w) (F 4 w - T 4 w) ?_ (F 0 0 + 1) 0 (by omega) (by omega)
          cases hn : kv_next T w (F 0 0) with
          | none =>
            have hn2 : kv_next T w (T 0 0) = none := by rw [hS.1]; exact hn
            have eR : kv_share w 60 F = T := by rw [← hT, kv_share_none hn2]
            show ce_WP (ce_r 2) mX8_layGot 0 0 124 [some (.ref (d)), some (.ref (r)), some (.int (nI (w))), some (.int (nI (T 4 w))), some (.int (nI (F 4 w - T 4 w))), some (.int (nI (1))), some (.int ((-99999))), none, none] [] σ g (ce_rv σ (fun z9 g1 => z9 = nI (F 4 w - kv_share w 60 F 4 w) ∧ cr_sh F (kv_share w 60 F) w ∧ (∀ m, m < 6 → g1 (d + 8) m = nI (kv_share w 60 F 8 (m * 6 + w))) ∧ ∀ x, x ≠ d + 8 → g1 x = g0 x)) ce_no
            refine ce_iload dX8_layGot_124 rfl ?_
            refine ce_ldc dX8_layGot_126 kRX8_65 ?_
            refine ce_icmp_eqI (p := (-99999)) (q := (-99999)) (tgt := 135) dX8_layGot_128 (by decide) (by decide) (by decide) (fun c_128 => ?_) (fun c_128 => ?_)
            · refine ce_iconst (v := nI (0)) dX8_layGot_135 (by decide) ?_
              refine ce_istore dX8_layGot_136 (Nat.le_of_ble_eq_true rfl) rfl ?_
              refine ce_iload dX8_layGot_138 rfl ?_
              refine ce_if_eqN (tgt := 160) dX8_layGot_140 (by decide) rfl (by omega) (fun c_140 => ?_) (fun c_140 => ?_)
              · refine ce_goto (tgt := 36) dX8_layGot_160 (by decide) ?_
                refine ce_iload dX8_layGot_36 rfl ?_
                refine ce_if_eqN (tgt := 163) dX8_layGot_38 (by decide) rfl (by omega) (fun c_38 => ?_) (fun c_38 => ?_)
                · refine ce_iload dX8_layGot_163 rfl ?_
                  refine ce_iret dX8_layGot_165 rfl rfl (by decide) (by decide) ?_
                  rw [eR]
                  exact ⟨_, rfl, rfl, rfl, hS, hg, hf⟩
                · omega
              · omega
            · omega
          | some o =>
            have hn2 : kv_next T w (T 0 0) = some o := by rw [hS.1]; exact hn
            have hc := kv_next_lt hn2
            rw [hS.1] at hc
            show ce_WP (ce_r 2) mX8_layGot 0 0 124 [some (.ref (d)), some (.ref (r)), some (.int (nI (w))), some (.int (nI (T 4 w))), some (.int (nI (F 4 w - T 4 w))), some (.int (nI (1))), some (.int (nI (o))), none, none] [] σ g (ce_rv σ (fun z9 g1 => z9 = nI (F 4 w - kv_share w 60 F 4 w) ∧ cr_sh F (kv_share w 60 F) w ∧ (∀ m, m < 6 → g1 (d + 8) m = nI (kv_share w 60 F 8 (m * 6 + w))) ∧ ∀ x, x ≠ d + 8 → g1 x = g0 x)) ce_no
            refine ce_iload dX8_layGot_124 rfl ?_
            refine ce_ldc dX8_layGot_126 kRX8_65 ?_
            refine ce_icmp_eqI (p := ((o : Nat) : Int)) (q := (-99999)) (tgt := 135) dX8_layGot_128 (by decide) (nI_toInt (by omega)) (by decide) (fun c_128 => ?_) (fun c_128 => ?_)
            · omega
            · refine ce_iconst (v := nI (1)) dX8_layGot_131 (by decide) ?_
              refine ce_goto (tgt := 136) dX8_layGot_132 (by decide) ?_
              refine ce_istore dX8_layGot_136 (Nat.le_of_ble_eq_true rfl) rfl ?_
              refine ce_iload dX8_layGot_138 rfl ?_
              refine ce_if_eqN (tgt := 160) dX8_layGot_140 (by decide) rfl (by omega) (fun c_140 => ?_) (fun c_140 => ?_)
              · omega
              · refine ce_aload_n dX8_layGot_143 rfl ?_
                refine ce_getR dX8_layGot_144 fRX8_32 hD.1 hD.2.1.2.2.2.2.2.2.2.1 ?_
                refine ce_iload dX8_layGot_147 rfl ?_
                refine ce_dup2 dX8_layGot_149 rfl rfl ?_
                refine ce_ialdv dX8_layGot_150 (hD.2.2.2.2.2.2.2.2.2.1).1 rfl (hD.2.2.2.2.2.2.2.2.2.1).2 (by omega) (by decide) (hg _ (by omega)) ?_
                refine ce_iconst (v := nI (1)) dX8_layGot_151 (by decide) ?_
                refine ce_iadd (z := nI (T 8 (o * 6 + w) + 1)) dX8_layGot_152 (nI_add _ _) ?_
                refine ce_iast dX8_layGot_153 (hD.2.2.2.2.2.2.2.2.2.1).1 rfl (hD.2.2.2.2.2.2.2.2.2.1).2 (by omega) (by decide) ?_
                generalize hcg1 : ce_up g (d + 8) (o) (nI (T 8 (o * 6 + w) + 1)) = cg1
                refine ce_iinc (v := nI (T 4 w - 1)) dX8_layGot_154 rfl (ce_dec (by omega)) (Nat.le_of_ble_eq_true rfl) rfl ?_
                refine ce_iinc (v := nI (F 4 w - T 4 w + 1)) dX8_layGot_157 rfl (ce_inc1 _) (Nat.le_of_ble_eq_true rfl) rfl ?_
                refine ce_goto (tgt := 36) dX8_layGot_160 (by decide) ?_
                refine ce_drop (L' := [some (.ref (d)), some (.ref (r)), some (.int (nI (w))), some (.int (nI (T 4 w - 1))), some (.int (nI (F 4 w - T 4 w + 1))), some (.int (nI (1))), none, none, none]) (ce_le_s rfl (ce_le_s rfl (ce_le_s rfl (ce_le_s rfl (ce_le_s rfl (ce_le_s rfl (ce_le_n (ce_le_n (ce_le_n ce_le_e))))))))) ?_
                have hT2 : kv_share w (t - 1) (kv_give1 T o w) = kv_share w 60 F := by rw [← hT]; obtain ⟨v, rfl⟩ : ∃ v, t = v + 1 := ⟨t - 1, by omega⟩; exact (kv_share_some (by omega) hn2).symm
                refine cr_ih2 (ih (kv_give1 T o w) (t - 1) cg1 (by rw [cr_give_4]; omega) (by rw [cr_give_4]; omega) hT2 (cr_sh_1 hS hw hn2) (fun m hm6 => ?_) (fun x hx => by rw [← hcg1, ce_up_ne _ _ _ hx]; exact hf x hx)) ?_
                · rw [← hcg1, ce_up_eq, cr_give_8 hw]
                  unfold upd
                  by_cases e : m = o
                  · rw [if_pos e, if_pos e]
                  · rw [if_neg e, if_neg e]; exact hg m hm6
                · rw [cr_give_4, show F 4 w - (T 4 w - 1) = F 4 w - T 4 w + 1 by have := hS.2.2.2.1; omega]
                  exact fun h => h
set_option maxHeartbeats 2000000 in
set_option maxRecDepth 20000 in
theorem w0_X8_layGot {σ : ce_S} {g0 : ce_D} (d r : Nat) (F : ce_V) (O : Nat → Int32) (hD : ce_LM σ d) (hA : ce_LA σ 10 r 189) (hr0 : cr_row (g0 r) F O) (hrd : r ≠ d + 8) (w : Nat) (hw : w < 6) (h6 : F 0 0 ≤ 6) (hp : ∀ m, F 1 m ≤ 999) (h7 : ∀ i, F 7 i ≤ 60) (h4 : F 4 w ≤ 60) (h8 : ∀ m, F 8 (m * 6 + w) = 0) : ∀ (n9 i : Nat) (g : ce_D), 6 - i < n9 → i ≤ 6 → (∀ m, m < i → g (d + 8) m = nI 0) → (∀ x, x ≠ d + 8 → g x = g0 x) → ce_WP (ce_r 2) mX8_layGot 0 0 2 [some (.ref (d)), some (.ref (r)), some (.int (nI (w))), some (.int (nI (i))), none, none, none, none, none] [] σ g (ce_rv σ (fun z9 g1 => z9 = nI (F 4 w - kv_share w 60 F 4 w) ∧ cr_sh F (kv_share w 60 F) w ∧ (∀ m, m < 6 → g1 (d + 8) m = nI (kv_share w 60 F 8 (m * 6 + w))) ∧ ∀ x, x ≠ d + 8 → g1 x = g0 x)) ce_no := by
  intro n9
  induction n9 with
  | zero =>
    intros
    omega
  | succ n9 ih =>
    intro i g hm hi hz hf
    have hr : cr_row (g r) F O := by rw [hf r hrd]; exact hr0
    refine ce_iload_n dX8_layGot_2 rfl ?_
    refine ce_bipush (v := nI (6)) dX8_layGot_3 (by decide) ?_
    refine ce_icmp_geN (tgt := 21) dX8_layGot_5 (by decide) rfl rfl (by omega) (by omega) (fun c_5 => ?_) (fun c_5 => ?_)
    · refine ce_aload_n dX8_layGot_21 rfl ?_
      refine ce_iload_n dX8_layGot_22 rfl ?_
      refine ce_cSp dX8_layGot_23 hX8_wineAt kRX8_62 (m_X8_wineAt (w)) rfl rfl (by decide) (Nat.le_of_ble_eq_true rfl) ?_
      refine ce_iconst (v := nI (2)) dX8_layGot_26 (by decide) ?_
      refine ce_iadd (z := nI (21 + 6 * w + 2)) dX8_layGot_27 (nI_add _ _) ?_
      refine ce_ialdv dX8_layGot_28 (hA).1 rfl (hA).2 (by omega) (by decide) ((hr).w2 (by omega)) ?_
      refine ce_istore_n dX8_layGot_29 (Nat.le_of_ble_eq_true rfl) rfl ?_
      refine ce_iconst (v := nI (0)) dX8_layGot_30 (by decide) ?_
      refine ce_istore dX8_layGot_31 (Nat.le_of_ble_eq_true rfl) rfl ?_
      refine ce_iconst (v := nI (1)) dX8_layGot_33 (by decide) ?_
      refine ce_istore dX8_layGot_34 (Nat.le_of_ble_eq_true rfl) rfl ?_
      refine ce_drop (L' := [some (.ref (d)), some (.ref (r)), some (.int (nI (w))), some (.int (nI (F 4 w))), some (.int (nI (0))), some (.int (nI (1))), none, none, none]) (ce_le_s rfl (ce_le_s rfl (ce_le_s rfl (ce_le_s rfl (ce_le_s rfl (ce_le_s rfl (ce_le_n (ce_le_n (ce_le_n ce_le_e))))))))) ?_
      have e8 := w_X8_layGot d r F O hD hA hr0 hrd w hw h6 hp h7 h4 (F 4 w + 1) F 60 g (by omega) h4 rfl ⟨rfl, rfl, rfl, Nat.le_refl _, fun m => by rw [h8 m]; exact Nat.zero_le _, fun m _ => h8 m⟩ (fun m hm6 => by rw [hz m (by omega), h8 m]) hf
      rw [Nat.sub_self] at e8
      exact e8
    · refine ce_aload_n dX8_layGot_8 rfl ?_
      refine ce_getR dX8_layGot_9 fRX8_32 hD.1 hD.2.1.2.2.2.2.2.2.2.1 ?_
      refine ce_iload_n dX8_layGot_12 rfl ?_
      refine ce_iconst (v := nI (0)) dX8_layGot_13 (by decide) ?_
      refine ce_iast dX8_layGot_14 (hD.2.2.2.2.2.2.2.2.2.1).1 rfl (hD.2.2.2.2.2.2.2.2.2.1).2 (by omega) (by decide) ?_
      generalize hcg1 : ce_up g (d + 8) i (nI (0)) = cg1
      refine ce_iinc (v := nI (i + 1)) dX8_layGot_15 rfl (ce_inc1 _) (Nat.le_of_ble_eq_true rfl) rfl ?_
      refine ce_goto (tgt := 2) dX8_layGot_18 (by decide) ?_
      refine ih (i + 1) cg1 (by omega) (by omega) (fun m hm9 => ?_) (fun x hx => by rw [← hcg1, ce_up_ne _ _ _ hx]; exact hf x hx)
      rw [← hcg1, ce_up_eq]
      unfold upd
      by_cases e : m = i
      · rw [if_pos e]
      · rw [if_neg e]; exact hz m (by omega)
set_option maxHeartbeats 2000000 in
set_option maxRecDepth 20000 in
theorem m_X8_layGot {σ : ce_S} {g0 : ce_D} (d r : Nat) (F : ce_V) (O : Nat → Int32) (hD : ce_LM σ d) (hA : ce_LA σ 10 r 189) (hr0 : cr_row (g0 r) F O) (hrd : r ≠ d + 8) (w : Nat) (hw : w < 6) (h6 : F 0 0 ≤ 6) (hp : ∀ m, F 1 m ≤ 999) (h7 : ∀ i, F 7 i ≤ 60) (h4 : F 4 w ≤ 60) (h8 : ∀ m, F 8 (m * 6 + w) = 0) : ce_CT (ce_r 2) mX8_layGot [.ref (d), .ref (r), .int (nI (w))] σ g0 (ce_rv σ (fun z9 g1 => z9 = nI (F 4 w - kv_share w 60 F 4 w) ∧ cr_sh F (kv_share w 60 F) w ∧ (∀ m, m < 6 → g1 (d + 8) m = nI (kv_share w 60 F 8 (m * 6 + w))) ∧ ∀ x, x ≠ d + 8 → g1 x = g0 x)) ce_no := by
  refine ce_enter (by decide) rfl (Nat.le_of_ble_eq_true rfl) (L := [some (.ref (d)), some (.ref (r)), some (.int (nI (w))), none, none, none, none, none, none]) rfl ?_
  refine ce_iconst (v := nI (0)) dX8_layGot_0 (by decide) ?_
  refine ce_istore_n dX8_layGot_1 (Nat.le_of_ble_eq_true rfl) rfl ?_
  exact w0_X8_layGot d r F O hD hA hr0 hrd w hw h6 hp h7 h4 h8 7 0 g0 (by omega) (by omega) (fun m hm => absurd hm (Nat.not_lt_zero m)) (fun _ _ => rfl)
