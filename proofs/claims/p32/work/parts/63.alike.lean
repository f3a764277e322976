/-! two objects, one behind the other -/
theorem LX_smf {σ σ1 : ce_S} {s c : Nat} {b : Nat → Nat} (h : ce_LX σ c b) (k : ce_sm s σ σ1) (e : s < c ∨ c + 411 ≤ s) : ce_LX σ1 c b := by
  obtain ⟨h1, ⟨r0, r1, r2, r3, r4, r5, r6⟩, hC, ⟨⟨u1, u2, u3⟩, hg, hCs, hb⟩, hR, ⟨t1, ⟨t2, t3, t4⟩, t5, t6, t7⟩, ⟨p1, ⟨p2, p3⟩, p4, p5⟩, ⟨s1, s2, s3, s4⟩⟩ := h
  have e0 := k.2.2.2.2 c (by omega)
  have e1 := k.2.2.2.2 (c + 21) (by omega)
  have e2 := k.2.2.2.2 (c + 366) (by omega)
  have e3 := k.2.2.2.2 (c + 369) (by omega)
  have e4 := k.2.2.2.2 (c + 63) (by omega)
  have e5 := k.2.2.2.2 (c + 63 + 1) (by omega)
  refine ⟨by rw [k.2.1]; exact h1, by rw [e0]; exact ⟨r0, r1, r2, r3, r4, r5, r6⟩, hC.sm k (by omega), ⟨⟨by rw [k.2.1]; exact u1, by rw [e4]; exact u2, u3.sm k⟩, fun i hi => by rw [e5]; exact hg i hi, fun i hi => (hCs i hi).sm k (by have := hb.in hi; omega), hb⟩, hR.sm k (by omega), ⟨by rw [k.2.1]; exact t1, by rw [e1]; exact ⟨t2, t3, t4⟩, t5.sm k, t6.sm k (by omega), t7.sm k (by omega)⟩, ⟨by rw [k.2.1]; exact p1, by rw [e2]; exact ⟨p2, p3⟩, p4.sm k, p5.sm k⟩, s1.sm k, fun s9 hs => by rw [e3]; exact s2 s9 hs, fun s9 hs => (s3 s9 hs).sm k (by omega), s4.sm k⟩
/-- what another object does leaves this one -/
theorem kw_far {a c : Nat} {S S2 : ks_S} {σ σ1 : ce_S} {g g1 : ce_D} (h : ∃ b, ce_LX σ c b ∧ ce_rX g c b S) (k : kw a S2 σ g σ1 g1) (e : a + 411 ≤ c ∨ c + 411 ≤ a) : ∃ b, ce_LX σ1 c b ∧ ce_rX g1 c b S := by
  obtain ⟨b, hX, hr⟩ := h
  obtain ⟨k1, k2, k3, k4, k5⟩ := k.s
  have hX2 : ce_LX (σ1.1, σ.2) c b := hX
  exact ⟨b, LX_smf (s := a + 64) hX2 ⟨rfl, k2, k3, k4, k5⟩ (by omega), rX_far hr hX.2.2.2.1.2.2.2 (fun x h1 h2 => k.f x (by omega))⟩
/-- the objects at a and at a + 411 hold S and S2; the heap's size is t at least -/
def bo (a t : Nat) (S S2 : ks_S) (σ : ce_S) (g : ce_D) : Prop := t ≤ σ.1 ∧ (∃ b, ce_LX σ a b ∧ ce_rX g a b S) ∧ ∃ b, ce_LX σ (a + 411) b ∧ ce_rX g (a + 411) b S2
theorem bo.p {a t : Nat} {S S2 : ks_S} {σ : ce_S} {g : ce_D} (h : bo a t S S2 σ g) : kw a S σ g σ g := kw.of h.2.1
theorem bo.q {a t : Nat} {S S2 : ks_S} {σ : ce_S} {g : ce_D} (h : bo a t S S2 σ g) : kw (a + 411) S2 σ g σ g := kw.of h.2.2
theorem bo.cp {a t : Nat} {S S2 S3 : ks_S} {σ σ1 : ce_S} {g g1 : ce_D} (h : bo a t S S2 σ g) (k : kw a S3 σ g σ1 g1) : bo a t S3 S2 σ1 g1 := ⟨Nat.le_trans h.1 k.s.1, k.o, kw_far h.2.2 k (by omega)⟩
theorem bo.cq {a t : Nat} {S S2 S3 : ks_S} {σ σ1 : ce_S} {g g1 : ce_D} (h : bo a t S S2 σ g) (k : kw (a + 411) S3 σ g σ1 g1) : bo a t S S3 σ1 g1 := ⟨Nat.le_trans h.1 k.s.1, kw_far h.2.1 k (by omega), k.o⟩
/-- 1, and both hold what they held -/
def kb2 (a t : Nat) (S S2 : ks_S) : Option Value → ce_S → ce_D → Prop := fun v σ1 g1 => v = some (.int (nI 1)) ∧ bo a t S S2 σ1 g1
set_option maxHeartbeats 2000000 in
set_option maxRecDepth 20000 in
theorem m_L_alike {a t xz : Nat} {S : ks_S} {σ : ce_S} {g : ce_D} (hx : xz < 2147483648) (hb : bo a t S S σ g) (iv : kl_iv S) : ce_CT (ce_rl 2 20) mL_alike [.ref a, .ref (a + 411), .int (nI (xz))] σ g (kb2 a t S S) ce_no := by
  have hf8 : kp_few (sK S) ≤ 8 := Nat.le_trans (kp_min_le _) iv.ok.1.i7
  obtain ⟨vw9, hw9⟩ := o_wouldGet iv (nI (xz % 6)) (nI (xz / 6 % 6))
  obtain ⟨vr9, hr9⟩ := o_roomFor iv (nI (xz % 6))
  obtain ⟨vs9, hs9⟩ := o_shortest iv (nI (xz % 6))
  obtain ⟨vc9, hc9⟩ := o_script iv (nI 3) (lN (201003010080000 + xz % 900))
  obtain ⟨vd9, hd9⟩ := o_script iv (nI 2) (lN (6000090000 + xz % 9))
  refine ce_enter (by decide) rfl (Nat.le_of_ble_eq_true rfl) (L := [some (.ref (a)), some (.ref (a + 411)), some (.int (nI (xz)))]) rfl ?_
  show ce_WP (ce_rl 2 20) mL_alike 0 (6 * 0) 0 _ _ _ _ _ _
  refine ce_aload_n dL_alike_0 rfl ?_
  refine kc_Sj (V := nw (sK S) (sO S)) dL_alike_1 hL_now kRL_131 (m_L_now (hb).p iv) rfl rfl (by decide) (Nat.le_of_ble_eq_true rfl) rfl (by decide) ?_
  refine ce_aload_n dL_alike_4 rfl ?_
  refine kc_Sj (V := nw (sK S) (sO S)) dL_alike_5 hL_now kRL_131 (m_L_now (hb).q iv) rfl rfl (by decide) (Nat.le_of_ble_eq_true rfl) rfl (by decide) ?_
  refine ce_lcmp (z := lg_cmp (nw (sK S) (sO S)) (nw (sK S) (sO S))) dL_alike_8 rfl ?_
  refine ce_if_neC (tgt := 198) dL_alike_9 (by decide) rfl (fun c_9 => ?_) (fun c_9 => ?_)
  · exact absurd rfl c_9
  · refine ce_aload_n dL_alike_12 rfl ?_
    refine kc_V dL_alike_13 hX7_errorPosition kRL_202 (hb).p (fun b hX hr => kl_of_r hX (m_X7_errorPosition_ok _ b S hX hr iv.ok)) rfl rfl rfl rfl (by decide) (Nat.le_of_ble_eq_true rfl) rfl (by decide) (fun cs1 cg1 hcg1 => ?_)
    have bhcg1 := (hb).cp hcg1
    refine ce_aload_n dL_alike_16 rfl ?_
    refine kc_V dL_alike_17 hX7_errorPosition kRL_202 (bhcg1).q (fun b hX hr => kl_of_r hX (m_X7_errorPosition_ok _ b S hX hr iv.ok)) rfl rfl rfl rfl (by decide) (Nat.le_of_ble_eq_true rfl) rfl (by decide) (fun cs2 cg2 hcg2 => ?_)
    have bhcg2 := (bhcg1).cq hcg2
    refine ce_icmp_neI (p := (ce_o (kx_read (sT S) (sl S)).1).toInt) (q := (ce_o (kx_read (sT S) (sl S)).1).toInt) (tgt := 198) dL_alike_20 (by decide) rfl rfl (fun c_20 => ?_) (fun c_20 => ?_)
    · omega
    · refine ce_aload_n dL_alike_23 rfl ?_
      refine kc_V dL_alike_24 hX7_fewestBins kRL_193 (bhcg2).p (fun b hX hr => kl_of_r hX (m_X7_fewestBins_ok _ b S hX hr iv.ok)) rfl rfl rfl rfl (by decide) (Nat.le_of_ble_eq_true rfl) rfl (by decide) (fun cs3 cg3 hcg3 => ?_)
      have bhcg3 := (bhcg2).cp hcg3
      refine ce_aload_n dL_alike_27 rfl ?_
      refine kc_V dL_alike_28 hX7_fewestBins kRL_193 (bhcg3).q (fun b hX hr => kl_of_r hX (m_X7_fewestBins_ok _ b S hX hr iv.ok)) rfl rfl rfl rfl (by decide) (Nat.le_of_ble_eq_true rfl) rfl (by decide) (fun cs4 cg4 hcg4 => ?_)
      have bhcg4 := (bhcg3).cq hcg4
      refine ce_icmp_neN (tgt := 198) dL_alike_31 (by decide) rfl rfl (by omega) (by omega) (fun c_31 => ?_) (fun c_31 => ?_)
      · omega
      · refine ce_aload_n dL_alike_34 rfl ?_
        refine ce_iload_n dL_alike_35 rfl ?_
        refine ce_bipush (v := nI (6)) dL_alike_36 (by decide) ?_
        refine ce_irem (z := nI ((xz) % (6))) dL_alike_38 (nI_ne0 (by omega) (by omega)) (pk_rem (by omega) (by omega) (by omega)) ?_
        refine ce_iload_n dL_alike_39 rfl ?_
        refine ce_bipush (v := nI (6)) dL_alike_40 (by decide) ?_
        refine ce_idiv (z := nI ((xz) / (6))) dL_alike_42 (nI_ne0 (by omega) (by omega)) (pk_div (by omega) (by omega) (by omega)) ?_
        refine ce_bipush (v := nI (6)) dL_alike_43 (by decide) ?_
        refine ce_irem (z := nI (((xz) / (6)) % (6))) dL_alike_45 (nI_ne0 (by omega) (by omega)) (pk_rem (by omega) (by omega) (by omega)) ?_
        refine kc_Wk (V := vw9) dL_alike_46 hL_wouldGet kRL_158 (hw9 _ _ _ _ _ (bhcg4).p) rfl rfl (by decide) (Nat.le_of_ble_eq_true rfl) rfl (by decide) (fun cs5 cg5 hcg5 => ?_)
        have bhcg5 := (bhcg4).cp hcg5
        refine ce_aload_n dL_alike_49 rfl ?_
        refine ce_iload_n dL_alike_50 rfl ?_
        refine ce_bipush (v := nI (6)) dL_alike_51 (by decide) ?_
        refine ce_irem (z := nI ((xz) % (6))) dL_alike_53 (nI_ne0 (by omega) (by omega)) (pk_rem (by omega) (by omega) (by omega)) ?_
        refine ce_iload_n dL_alike_54 rfl ?_
        refine ce_bipush (v := nI (6)) dL_alike_55 (by decide) ?_
        refine ce_idiv (z := nI ((xz) / (6))) dL_alike_57 (nI_ne0 (by omega) (by omega)) (pk_div (by omega) (by omega) (by omega)) ?_
        refine ce_bipush (v := nI (6)) dL_alike_58 (by decide) ?_
        refine ce_irem (z := nI (((xz) / (6)) % (6))) dL_alike_60 (nI_ne0 (by omega) (by omega)) (pk_rem (by omega) (by omega) (by omega)) ?_
        refine kc_Wk (V := vw9) dL_alike_61 hL_wouldGet kRL_158 (hw9 _ _ _ _ _ (bhcg5).q) rfl rfl (by decide) (Nat.le_of_ble_eq_true rfl) rfl (by decide) (fun cs6 cg6 hcg6 => ?_)
        have bhcg6 := (bhcg5).cq hcg6
        refine ce_lcmp (z := lg_cmp (vw9) (vw9)) dL_alike_64 rfl ?_
        refine ce_if_neC (tgt := 198) dL_alike_65 (by decide) rfl (fun c_65 => ?_) (fun c_65 => ?_)
        · exact absurd rfl c_65
        · refine ce_aload_n dL_alike_68 rfl ?_
          refine ce_iload_n dL_alike_69 rfl ?_
          refine ce_bipush (v := nI (6)) dL_alike_70 (by decide) ?_
          refine ce_irem (z := nI ((xz) % (6))) dL_alike_72 (nI_ne0 (by omega) (by omega)) (pk_rem (by omega) (by omega) (by omega)) ?_
          refine kc_Wk (V := vr9) dL_alike_73 hL_roomFor kRL_164 (hr9 _ _ _ _ _ (bhcg6).p) rfl rfl (by decide) (Nat.le_of_ble_eq_true rfl) rfl (by decide) (fun cs7 cg7 hcg7 => ?_)
          have bhcg7 := (bhcg6).cp hcg7
          refine ce_aload_n dL_alike_76 rfl ?_
          refine ce_iload_n dL_alike_77 rfl ?_
          refine ce_bipush (v := nI (6)) dL_alike_78 (by decide) ?_
          refine ce_irem (z := nI ((xz) % (6))) dL_alike_80 (nI_ne0 (by omega) (by omega)) (pk_rem (by omega) (by omega) (by omega)) ?_
          refine kc_Wk (V := vr9) dL_alike_81 hL_roomFor kRL_164 (hr9 _ _ _ _ _ (bhcg7).q) rfl rfl (by decide) (Nat.le_of_ble_eq_true rfl) rfl (by decide) (fun cs8 cg8 hcg8 => ?_)
          have bhcg8 := (bhcg7).cq hcg8
          refine ce_lcmp (z := lg_cmp (vr9) (vr9)) dL_alike_84 rfl ?_
          refine ce_if_neC (tgt := 198) dL_alike_85 (by decide) rfl (fun c_85 => ?_) (fun c_85 => ?_)
          · exact absurd rfl c_85
          · refine ce_aload_n dL_alike_88 rfl ?_
            refine ce_iload_n dL_alike_89 rfl ?_
            refine ce_bipush (v := nI (6)) dL_alike_90 (by decide) ?_
            refine ce_irem (z := nI ((xz) % (6))) dL_alike_92 (nI_ne0 (by omega) (by omega)) (pk_rem (by omega) (by omega) (by omega)) ?_
            refine kc_Wk (V := vs9) dL_alike_93 hL_shortest kRL_162 (hs9 _ _ _ _ _ (bhcg8).p) rfl rfl (by decide) (Nat.le_of_ble_eq_true rfl) rfl (by decide) (fun cs9 cg9 hcg9 => ?_)
            have bhcg9 := (bhcg8).cp hcg9
            refine ce_aload_n dL_alike_96 rfl ?_
            refine ce_iload_n dL_alike_97 rfl ?_
            refine ce_bipush (v := nI (6)) dL_alike_98 (by decide) ?_
            refine ce_irem (z := nI ((xz) % (6))) dL_alike_100 (nI_ne0 (by omega) (by omega)) (pk_rem (by omega) (by omega) (by omega)) ?_
            refine kc_Wk (V := vs9) dL_alike_101 hL_shortest kRL_162 (hs9 _ _ _ _ _ (bhcg9).q) rfl rfl (by decide) (Nat.le_of_ble_eq_true rfl) rfl (by decide) (fun cs10 cg10 hcg10 => ?_)
            have bhcg10 := (bhcg9).cq hcg10
            refine ce_lcmp (z := lg_cmp (vs9) (vs9)) dL_alike_104 rfl ?_
            refine ce_if_neC (tgt := 198) dL_alike_105 (by decide) rfl (fun c_105 => ?_) (fun c_105 => ?_)
            · exact absurd rfl c_105
            · refine ce_aload_n dL_alike_108 rfl ?_
              refine ce_iload_n dL_alike_109 rfl ?_
              refine ce_i2l (v := lN (xz)) dL_alike_110 (nI_l (by omega)) ?_
              refine ce_bipush (v := nI (20)) dL_alike_111 (by decide) ?_
              refine kc_Wk (V := (nI (kx_si S (lN (xz)) 20)).toInt64) dL_alike_113 hL_simulate kRL_174 (q_sim (bhcg10).p iv (lN (xz)) (m := 20) (by decide)) rfl rfl (by decide) (Nat.le_of_ble_eq_true rfl) rfl (by decide) (fun cs11 cg11 hcg11 => ?_)
              have bhcg11 := (bhcg10).cp hcg11
              refine ce_aload_n dL_alike_116 rfl ?_
              refine ce_iload_n dL_alike_117 rfl ?_
              refine ce_i2l (v := lN (xz)) dL_alike_118 (nI_l (by omega)) ?_
              refine ce_bipush (v := nI (20)) dL_alike_119 (by decide) ?_
              refine kc_Wk (V := (nI (kx_si S (lN (xz)) 20)).toInt64) dL_alike_121 hL_simulate kRL_174 (q_sim (bhcg11).q iv (lN (xz)) (m := 20) (by decide)) rfl rfl (by decide) (Nat.le_of_ble_eq_true rfl) rfl (by decide) (fun cs12 cg12 hcg12 => ?_)
              have bhcg12 := (bhcg11).cq hcg12
              refine ce_lcmp (z := lg_cmp ((nI (kx_si S (lN (xz)) 20)).toInt64) ((nI (kx_si S (lN (xz)) 20)).toInt64)) dL_alike_124 rfl ?_
              refine ce_if_neC (tgt := 198) dL_alike_125 (by decide) rfl (fun c_125 => ?_) (fun c_125 => ?_)
              · exact absurd rfl c_125
              · refine ce_aload_n dL_alike_128 rfl ?_
                refine ce_iconst (v := nI (3)) dL_alike_129 (by decide) ?_
                refine ce_ldc2 (v := lN 201003010080000) dL_alike_130 kRL_205 ?_
                refine ce_iload_n dL_alike_133 rfl ?_
                refine ce_sipush (v := nI (900)) dL_alike_134 (by decide) ?_
                refine ce_irem (z := nI ((xz) % (900))) dL_alike_137 (nI_ne0 (by omega) (by omega)) (pk_rem (by omega) (by omega) (by omega)) ?_
                refine ce_i2l (v := lN ((xz) % (900))) dL_alike_138 (nI_l (by omega)) ?_
                refine ce_ladd (z := lN (201003010080000 + ((xz) % (900)))) dL_alike_139 (lN_add _ _) ?_
                refine kc_Wk (V := vc9) dL_alike_140 hL_script kRL_168 (hc9 _ _ _ _ _ (bhcg12).p) rfl rfl (by decide) (Nat.le_of_ble_eq_true rfl) rfl (by decide) (fun cs13 cg13 hcg13 => ?_)
                have bhcg13 := (bhcg12).cp hcg13
                refine ce_aload_n dL_alike_143 rfl ?_
                refine ce_iconst (v := nI (3)) dL_alike_144 (by decide) ?_
                refine ce_ldc2 (v := lN 201003010080000) dL_alike_145 kRL_205 ?_
                refine ce_iload_n dL_alike_148 rfl ?_
                refine ce_sipush (v := nI (900)) dL_alike_149 (by decide) ?_
                refine ce_irem (z := nI ((xz) % (900))) dL_alike_152 (nI_ne0 (by omega) (by omega)) (pk_rem (by omega) (by omega) (by omega)) ?_
                refine ce_i2l (v := lN ((xz) % (900))) dL_alike_153 (nI_l (by omega)) ?_
                refine ce_ladd (z := lN (201003010080000 + ((xz) % (900)))) dL_alike_154 (lN_add _ _) ?_
                refine kc_Wk (V := vc9) dL_alike_155 hL_script kRL_168 (hc9 _ _ _ _ _ (bhcg13).q) rfl rfl (by decide) (Nat.le_of_ble_eq_true rfl) rfl (by decide) (fun cs14 cg14 hcg14 => ?_)
                have bhcg14 := (bhcg13).cq hcg14
                refine ce_lcmp (z := lg_cmp (vc9) (vc9)) dL_alike_158 rfl ?_
                refine ce_if_neC (tgt := 198) dL_alike_159 (by decide) rfl (fun c_159 => ?_) (fun c_159 => ?_)
                · exact absurd rfl c_159
                · refine ce_aload_n dL_alike_162 rfl ?_
                  refine ce_iconst (v := nI (2)) dL_alike_163 (by decide) ?_
                  refine ce_ldc2 (v := lN 6000090000) dL_alike_164 kRL_207 ?_
                  refine ce_iload_n dL_alike_167 rfl ?_
                  refine ce_bipush (v := nI (9)) dL_alike_168 (by decide) ?_
                  refine ce_irem (z := nI ((xz) % (9))) dL_alike_170 (nI_ne0 (by omega) (by omega)) (pk_rem (by omega) (by omega) (by omega)) ?_
                  refine ce_i2l (v := lN ((xz) % (9))) dL_alike_171 (nI_l (by omega)) ?_
                  refine ce_ladd (z := lN (6000090000 + ((xz) % (9)))) dL_alike_172 (lN_add _ _) ?_
                  refine kc_Wk (V := vd9) dL_alike_173 hL_script kRL_168 (hd9 _ _ _ _ _ (bhcg14).p) rfl rfl (by decide) (Nat.le_of_ble_eq_true rfl) rfl (by decide) (fun cs15 cg15 hcg15 => ?_)
                  have bhcg15 := (bhcg14).cp hcg15
                  refine ce_aload_n dL_alike_176 rfl ?_
                  refine ce_iconst (v := nI (2)) dL_alike_177 (by decide) ?_
                  refine ce_ldc2 (v := lN 6000090000) dL_alike_178 kRL_207 ?_
                  refine ce_iload_n dL_alike_181 rfl ?_
                  refine ce_bipush (v := nI (9)) dL_alike_182 (by decide) ?_
                  refine ce_irem (z := nI ((xz) % (9))) dL_alike_184 (nI_ne0 (by omega) (by omega)) (pk_rem (by omega) (by omega) (by omega)) ?_
                  refine ce_i2l (v := lN ((xz) % (9))) dL_alike_185 (nI_l (by omega)) ?_
                  refine ce_ladd (z := lN (6000090000 + ((xz) % (9)))) dL_alike_186 (lN_add _ _) ?_
                  refine kc_Wk (V := vd9) dL_alike_187 hL_script kRL_168 (hd9 _ _ _ _ _ (bhcg15).q) rfl rfl (by decide) (Nat.le_of_ble_eq_true rfl) rfl (by decide) (fun cs16 cg16 hcg16 => ?_)
                  have bhcg16 := (bhcg15).cq hcg16
                  refine ce_lcmp (z := lg_cmp (vd9) (vd9)) dL_alike_190 rfl ?_
                  refine ce_if_neC (tgt := 198) dL_alike_191 (by decide) rfl (fun c_191 => ?_) (fun c_191 => ?_)
                  · exact absurd rfl c_191
                  · refine ce_iconst (v := nI (1)) dL_alike_194 (by decide) ?_
                    refine ce_goto (tgt := 199) dL_alike_195 (by decide) ?_
                    exact ce_iret dL_alike_199 rfl rfl (by decide) (by decide) ⟨rfl, bhcg16⟩
