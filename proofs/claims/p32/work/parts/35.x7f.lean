def kd_K (K : ce_V) (G : Nat) : ce_V := ks_ite (kt_f K G) (kt_K K G) K
def kd_O (K : ce_V) (O : Nat → Int32) (G : Nat) : Nat → Int32 := ks_ite (kt_f K G) (kt_O K O G) O
/-- the first command that fails -/
def kx_run (K : ce_V) : List Nat → Nat → Option Nat
  | [], _ => none
  | G :: r, i => if kt_f K G = 0 then kx_run (kd_K K G) r (i + 1) else some i
theorem kx_run_y {K : ce_V} {G i : Nat} {r : List Nat} (h : kt_f K G = 0) : kx_run K (G :: r) i = kx_run (kd_K K G) r (i + 1) := if_pos h
theorem kx_run_n {K : ce_V} {G i : Nat} {r : List Nat} (h : ¬ kt_f K G = 0) : kx_run K (G :: r) i = some i := if_neg h
theorem cl_kd {K : ce_V} (h : kv_cl K) {G : Nat} (hG : G < 100000) : kv_cl (kd_K K G) := cl_cmd h hG
/-- an evening: the number drawn, the club behind it -/
def ke_x (x : Int64) : Int64 := x * 6364136223846793005 + 1442695040888963407
def ke_R (x : Int64) : Nat := x.toBitVec.toNat / 2 ^ 33
def kx_eK (K : ce_V) (R : Nat) : ce_V := ks_ite (ke_f K R) (ke_K K R) K
def kx_eO (K : ce_V) (O : Nat → Int32) (R : Nat) : Nat → Int32 := ks_ite (ke_f K R) (ke_O K O R) O
def kx_sim : Nat → Int64 → ce_V → ce_V
  | 0, _, K => K
  | t + 1, x, K => kx_sim t (ke_x x) (kx_eK K (ke_R (ke_x x)))
theorem ke_R_lt (x : Int64) : ke_R x < 2 ^ 31 := by
  unfold ke_R
  have := x.toBitVec.isLt
  omega
theorem ke_R_eq (x : Int64) : ((x.toUInt64 >>> ((nI 33).toInt64.toUInt64 &&& Int64.toUInt64 63)).toInt64).toInt32 = nI (ke_R x) := by
  have hc : ((nI 33).toInt64.toUInt64 &&& Int64.toUInt64 63) = 33 := by decide
  rw [hc]
  have h1 : x.toUInt64 >>> (33 : UInt64) = UInt64.ofNat (ke_R x) := by
    apply UInt64.toNat_inj.mp
    have h2 := UInt64.toNat_shiftRight x.toUInt64 33
    have h3 : x.toUInt64.toNat = x.toBitVec.toNat := rfl
    have h4 := ke_R_lt x
    have h5 : (33 : UInt64).toNat % 64 = 33 := by decide
    have h6 : (UInt64.ofNat (ke_R x)).toNat = ke_R x % 2 ^ 64 := by first | rfl | simp
    rw [h2, h3, h5, h6, Nat.shiftRight_eq_div_pow, Nat.mod_eq_of_lt (by omega)]
    rfl
  rw [h1]
  exact lN_i (ke_R x)
theorem cl_ev {K : ce_V} (h : kv_cl K) {R : Nat} (hR : R < 2 ^ 31) : kv_cl (kx_eK K R) := cl_eve h hR
set_option maxHeartbeats 2000000 in
set_option maxRecDepth 20000 in
theorem m_X7_runScript_ok1 {σ : ce_S} {g : ce_D} (a : Nat) (b : Nat → Nat) (S : ks_S) (hX : ce_LX σ a b) (hr : ce_rX g a b S) (ok : ks_ok S) (X : Nat) (hX63 : X < 2 ^ 63) (hf : kx_scr (nI (1)) (lN X) = 0) : ce_CT (ce_r 6) mX7_runScript [.ref (a), .int (nI (1)), .long (lN X)] σ g (ce_rv σ (fun z9 g1 => z9 = ce_o (kx_run (sK S) [X % 100000] 0) ∧ ce_rX g1 a b S ∧ ce_fr a (a + 411) g g1)) ce_no := by
  refine ce_enter (by decide) rfl (Nat.le_of_ble_eq_true rfl) (L := [some (.ref (a)), some (.int (nI (1))), some (.long (lN X)), none, none]) rfl ?_
  refine ce_iload_n dX7_runScript_0 rfl ?_
  refine ce_lload_n dX7_runScript_1 rfl ?_
  refine ce_cSp dX7_runScript_2 hX7_scriptFault kRX7_231 (hf ▸ m_X7_scriptFault (nI (1)) (lN X)) rfl rfl (by decide) (Nat.le_of_ble_eq_true rfl) ?_
  refine ce_cSq dX7_runScript_5 hX7_check kRX7_56 (m_X7_check0) rfl rfl (by decide) (Nat.le_of_ble_eq_true rfl) ?_
  refine ce_aload_n dX7_runScript_8 rfl ?_
  refine ce_getR dX7_runScript_9 fRX7_33 hX.1 hX.2.1.2.2.2.1 ?_
  refine ce_aload_n dX7_runScript_12 rfl ?_
  refine ce_getR dX7_runScript_13 fRX7_10 hX.1 hX.2.1.1 ?_
  refine ce_cVu dX7_runScript_16 hX4_begin kRX7_204 (m_X4_begin (a + 345) (a + 1) (sK S) (sO S) hX.2.2.2.2.1 hX.2.2.1 hr.1 ok.1.rk (by omega)) rfl rfl hX.2.2.2.2.1.1 rfl (by decide) (Nat.le_of_ble_eq_true rfl) (fun cg1 hcg1 => ?_)
  have xcg1 := rX_reh hr hX.2.2.2.1.2.2.2 hcg1.2
  refine ce_iconst (v := nI (0)) dX7_runScript_19 (by decide) ?_
  refine ce_istore dX7_runScript_20 (Nat.le_of_ble_eq_true rfl) rfl ?_
  refine ce_iload dX7_runScript_22 rfl ?_
  refine ce_iload_n dX7_runScript_24 rfl ?_
  refine ce_icmp_geN (tgt := 57) dX7_runScript_25 (by decide) rfl rfl (by omega) (by omega) (fun c_25 => ?_) (fun c_25 => ?_)
  · omega
  · refine ce_aload_n dX7_runScript_28 rfl ?_
    refine ce_getR dX7_runScript_29 fRX7_33 hX.1 hX.2.1.2.2.2.1 ?_
    refine ce_lload_n dX7_runScript_32 rfl ?_
    refine ce_iload_n dX7_runScript_33 rfl ?_
    refine ce_iconst (v := nI (1)) dX7_runScript_34 (by decide) ?_
    refine ce_isub (z := nI (1 - (1))) dX7_runScript_35 (pk_sub (by omega)) ?_
    refine ce_iload dX7_runScript_36 rfl ?_
    refine ce_isub (z := nI (1 - (1) - (0))) dX7_runScript_38 (pk_sub (by omega)) ?_
    refine ce_cSp dX7_runScript_39 hX7_groupAt kRX7_235 (m_X7_groupAt0 X hX63) rfl rfl (by decide) (Nat.le_of_ble_eq_true rfl) ?_
    refine ce_cVr dX7_runScript_42 hX4_obeys kRX7_239 (m_X4_obeys (a + 345) (sK S) (sO S) hX.2.2.2.2.1 hcg1.1 ok.1 (X % 100000) (by omega)) rfl rfl hX.2.2.2.2.1.1 rfl (by decide) (Nat.le_of_ble_eq_true rfl) (fun rcg2 cg2 hcg2 => ?_)
    obtain ⟨rfl, hcg22, hcg23⟩ := hcg2
    have ycg2 := (hcg1.2).tr hcg23
    have xcg2 := rX_reh hr hX.2.2.2.1.2.2.2 ycg2
    refine ce_if_neB (tgt := 51) dX7_runScript_45 (by decide) rfl (fun c_45 => ?_) (fun c_45 => ?_)
    · have u0 := kx_run_y (K := (sK S)) (G := X % 100000) (i := 0) (r := []) c_45
      refine ce_iinc (v := nI (1)) dX7_runScript_51 rfl (ce_inc1 _) (Nat.le_of_ble_eq_true rfl) rfl ?_
      refine ce_goto (tgt := 22) dX7_runScript_54 (by decide) ?_
      refine ce_iload dX7_runScript_22 rfl ?_
      refine ce_iload_n dX7_runScript_24 rfl ?_
      refine ce_icmp_geN (tgt := 57) dX7_runScript_25 (by decide) rfl rfl (by omega) (by omega) (fun c_25 => ?_) (fun c_25 => ?_)
      · refine ce_ldc dX7_runScript_57 kRX7_71 ?_
        refine ce_iret dX7_runScript_59 rfl rfl (by decide) (by decide) ?_
        exact ⟨_, rfl, rfl, congrArg ce_o (u0).symm, xcg2, fun x hx => ycg2 x (by omega)⟩
      · omega
    · have u0 := kx_run_n (K := (sK S)) (G := X % 100000) (i := 0) (r := []) c_45
      refine ce_iload dX7_runScript_48 rfl ?_
      refine ce_iret dX7_runScript_50 rfl rfl (by decide) (by decide) ?_
      exact ⟨_, rfl, rfl, congrArg ce_o (u0).symm, xcg2, fun x hx => ycg2 x (by omega)⟩
set_option maxHeartbeats 2000000 in
set_option maxRecDepth 20000 in
theorem m_X7_runScript_ok2 {σ : ce_S} {g : ce_D} (a : Nat) (b : Nat → Nat) (S : ks_S) (hX : ce_LX σ a b) (hr : ce_rX g a b S) (ok : ks_ok S) (X : Nat) (hX63 : X < 2 ^ 63) (hf : kx_scr (nI (2)) (lN X) = 0) : ce_CT (ce_r 6) mX7_runScript [.ref (a), .int (nI (2)), .long (lN X)] σ g (ce_rv σ (fun z9 g1 => z9 = ce_o (kx_run (sK S) [X / 100000 % 100000, X % 100000] 0) ∧ ce_rX g1 a b S ∧ ce_fr a (a + 411) g g1)) ce_no := by
  refine ce_enter (by decide) rfl (Nat.le_of_ble_eq_true rfl) (L := [some (.ref (a)), some (.int (nI (2))), some (.long (lN X)), none, none]) rfl ?_
  refine ce_iload_n dX7_runScript_0 rfl ?_
  refine ce_lload_n dX7_runScript_1 rfl ?_
  refine ce_cSp dX7_runScript_2 hX7_scriptFault kRX7_231 (hf ▸ m_X7_scriptFault (nI (2)) (lN X)) rfl rfl (by decide) (Nat.le_of_ble_eq_true rfl) ?_
  refine ce_cSq dX7_runScript_5 hX7_check kRX7_56 (m_X7_check0) rfl rfl (by decide) (Nat.le_of_ble_eq_true rfl) ?_
  refine ce_aload_n dX7_runScript_8 rfl ?_
  refine ce_getR dX7_runScript_9 fRX7_33 hX.1 hX.2.1.2.2.2.1 ?_
  refine ce_aload_n dX7_runScript_12 rfl ?_
  refine ce_getR dX7_runScript_13 fRX7_10 hX.1 hX.2.1.1 ?_
  refine ce_cVu dX7_runScript_16 hX4_begin kRX7_204 (m_X4_begin (a + 345) (a + 1) (sK S) (sO S) hX.2.2.2.2.1 hX.2.2.1 hr.1 ok.1.rk (by omega)) rfl rfl hX.2.2.2.2.1.1 rfl (by decide) (Nat.le_of_ble_eq_true rfl) (fun cg1 hcg1 => ?_)
  have xcg1 := rX_reh hr hX.2.2.2.1.2.2.2 hcg1.2
  refine ce_iconst (v := nI (0)) dX7_runScript_19 (by decide) ?_
  refine ce_istore dX7_runScript_20 (Nat.le_of_ble_eq_true rfl) rfl ?_
  refine ce_iload dX7_runScript_22 rfl ?_
  refine ce_iload_n dX7_runScript_24 rfl ?_
  refine ce_icmp_geN (tgt := 57) dX7_runScript_25 (by decide) rfl rfl (by omega) (by omega) (fun c_25 => ?_) (fun c_25 => ?_)
  · omega
  · refine ce_aload_n dX7_runScript_28 rfl ?_
    refine ce_getR dX7_runScript_29 fRX7_33 hX.1 hX.2.1.2.2.2.1 ?_
    refine ce_lload_n dX7_runScript_32 rfl ?_
    refine ce_iload_n dX7_runScript_33 rfl ?_
    refine ce_iconst (v := nI (1)) dX7_runScript_34 (by decide) ?_
    refine ce_isub (z := nI (2 - (1))) dX7_runScript_35 (pk_sub (by omega)) ?_
    refine ce_iload dX7_runScript_36 rfl ?_
    refine ce_isub (z := nI (2 - (1) - (0))) dX7_runScript_38 (pk_sub (by omega)) ?_
    refine ce_cSp dX7_runScript_39 hX7_groupAt kRX7_235 (m_X7_groupAt1 X hX63) rfl rfl (by decide) (Nat.le_of_ble_eq_true rfl) ?_
    refine ce_cVr dX7_runScript_42 hX4_obeys kRX7_239 (m_X4_obeys (a + 345) (sK S) (sO S) hX.2.2.2.2.1 hcg1.1 ok.1 (X / 100000 % 100000) (by omega)) rfl rfl hX.2.2.2.2.1.1 rfl (by decide) (Nat.le_of_ble_eq_true rfl) (fun rcg2 cg2 hcg2 => ?_)
    obtain ⟨rfl, hcg22, hcg23⟩ := hcg2
    have ycg2 := (hcg1.2).tr hcg23
    have xcg2 := rX_reh hr hX.2.2.2.1.2.2.2 ycg2
    refine ce_if_neB (tgt := 51) dX7_runScript_45 (by decide) rfl (fun c_45 => ?_) (fun c_45 => ?_)
    · have u0 := kx_run_y (K := (sK S)) (G := X / 100000 % 100000) (i := 0) (r := [X % 100000]) c_45
      refine ce_iinc (v := nI (1)) dX7_runScript_51 rfl (ce_inc1 _) (Nat.le_of_ble_eq_true rfl) rfl ?_
      refine ce_goto (tgt := 22) dX7_runScript_54 (by decide) ?_
      refine ce_iload dX7_runScript_22 rfl ?_
      refine ce_iload_n dX7_runScript_24 rfl ?_
      refine ce_icmp_geN (tgt := 57) dX7_runScript_25 (by decide) rfl rfl (by omega) (by omega) (fun c_25 => ?_) (fun c_25 => ?_)
      · omega
      · refine ce_aload_n dX7_runScript_28 rfl ?_
        refine ce_getR dX7_runScript_29 fRX7_33 hX.1 hX.2.1.2.2.2.1 ?_
        refine ce_lload_n dX7_runScript_32 rfl ?_
        refine ce_iload_n dX7_runScript_33 rfl ?_
        refine ce_iconst (v := nI (1)) dX7_runScript_34 (by decide) ?_
        refine ce_isub (z := nI (2 - (1))) dX7_runScript_35 (pk_sub (by omega)) ?_
        refine ce_iload dX7_runScript_36 rfl ?_
        refine ce_isub (z := nI (2 - (1) - (1))) dX7_runScript_38 (pk_sub (by omega)) ?_
        refine ce_cSp dX7_runScript_39 hX7_groupAt kRX7_235 (m_X7_groupAt0 X hX63) rfl rfl (by decide) (Nat.le_of_ble_eq_true rfl) ?_
        refine ce_cVr dX7_runScript_42 hX4_obeys kRX7_239 (m_X4_obeys (a + 345) (kd_K (sK S) (X / 100000 % 100000)) (kd_O (sK S) (sO S) (X / 100000 % 100000)) hX.2.2.2.2.1 hcg22 (cl_kd ok.1 (by omega)) (X % 100000) (by omega)) rfl rfl hX.2.2.2.2.1.1 rfl (by decide) (Nat.le_of_ble_eq_true rfl) (fun rcg3 cg3 hcg3 => ?_)
        obtain ⟨rfl, hcg32, hcg33⟩ := hcg3
        have ycg3 := (ycg2).tr hcg33
        have xcg3 := rX_reh hr hX.2.2.2.1.2.2.2 ycg3
        refine ce_if_neB (tgt := 51) dX7_runScript_45 (by decide) rfl (fun c_45 => ?_) (fun c_45 => ?_)
        · have u1 := kx_run_y (K := (kd_K (sK S) (X / 100000 % 100000))) (G := X % 100000) (i := 1) (r := []) c_45
          refine ce_iinc (v := nI (2)) dX7_runScript_51 rfl (ce_inc1 _) (Nat.le_of_ble_eq_true rfl) rfl ?_
          refine ce_goto (tgt := 22) dX7_runScript_54 (by decide) ?_
          refine ce_iload dX7_runScript_22 rfl ?_
          refine ce_iload_n dX7_runScript_24 rfl ?_
          refine ce_icmp_geN (tgt := 57) dX7_runScript_25 (by decide) rfl rfl (by omega) (by omega) (fun c_25 => ?_) (fun c_25 => ?_)
          · refine ce_ldc dX7_runScript_57 kRX7_71 ?_
            refine ce_iret dX7_runScript_59 rfl rfl (by decide) (by decide) ?_
            exact ⟨_, rfl, rfl, congrArg ce_o (((u0).trans u1)).symm, xcg3, fun x hx => ycg3 x (by omega)⟩
          · omega
        · have u1 := kx_run_n (K := (kd_K (sK S) (X / 100000 % 100000))) (G := X % 100000) (i := 1) (r := []) c_45
          refine ce_iload dX7_runScript_48 rfl ?_
          refine ce_iret dX7_runScript_50 rfl rfl (by decide) (by decide) ?_
          exact ⟨_, rfl, rfl, congrArg ce_o (((u0).trans u1)).symm, xcg3, fun x hx => ycg3 x (by omega)⟩
    · have u0 := kx_run_n (K := (sK S)) (G := X / 100000 % 100000) (i := 0) (r := [X % 100000]) c_45
      refine ce_iload dX7_runScript_48 rfl ?_
      refine ce_iret dX7_runScript_50 rfl rfl (by decide) (by decide) ?_
      exact ⟨_, rfl, rfl, congrArg ce_o (u0).symm, xcg2, fun x hx => ycg2 x (by omega)⟩
set_option maxHeartbeats 2000000 in
set_option maxRecDepth 20000 in
theorem m_X7_runScript_ok3 {σ : ce_S} {g : ce_D} (a : Nat) (b : Nat → Nat) (S : ks_S) (hX : ce_LX σ a b) (hr : ce_rX g a b S) (ok : ks_ok S) (X : Nat) (hX63 : X < 2 ^ 63) (hf : kx_scr (nI (3)) (lN X) = 0) : ce_CT (ce_r 6) mX7_runScript [.ref (a), .int (nI (3)), .long (lN X)] σ g (ce_rv σ (fun z9 g1 => z9 = ce_o (kx_run (sK S) [X / 100000 / 100000 % 100000, X / 100000 % 100000, X % 100000] 0) ∧ ce_rX g1 a b S ∧ ce_fr a (a + 411) g g1)) ce_no := by
  refine ce_enter (by decide) rfl (Nat.le_of_ble_eq_true rfl) (L := [some (.ref (a)), some (.int (nI (3))), some (.long (lN X)), none, none]) rfl ?_
  refine ce_iload_n dX7_runScript_0 rfl ?_
  refine ce_lload_n dX7_runScript_1 rfl ?_
  refine ce_cSp dX7_runScript_2 hX7_scriptFault kRX7_231 (hf ▸ m_X7_scriptFault (nI (3)) (lN X)) rfl rfl (by decide) (Nat.le_of_ble_eq_true rfl) ?_
  refine ce_cSq dX7_runScript_5 hX7_check kRX7_56 (m_X7_check0) rfl rfl (by decide) (Nat.le_of_ble_eq_true rfl) ?_
  refine ce_aload_n dX7_runScript_8 rfl ?_
  refine ce_getR dX7_runScript_9 fRX7_33 hX.1 hX.2.1.2.2.2.1 ?_
  refine ce_aload_n dX7_runScript_12 rfl ?_
  refine ce_getR dX7_runScript_13 fRX7_10 hX.1 hX.2.1.1 ?_
  refine ce_cVu dX7_runScript_16 hX4_begin kRX7_204 (m_X4_begin (a + 345) (a + 1) (sK S) (sO S) hX.2.2.2.2.1 hX.2.2.1 hr.1 ok.1.rk (by omega)) rfl rfl hX.2.2.2.2.1.1 rfl (by decide) (Nat.le_of_ble_eq_true rfl) (fun cg1 hcg1 => ?_)
  have xcg1 := rX_reh hr hX.2.2.2.1.2.2.2 hcg1.2
  refine ce_iconst (v := nI (0)) dX7_runScript_19 (by decide) ?_
  refine ce_istore dX7_runScript_20 (Nat.le_of_ble_eq_true rfl) rfl ?_
  refine ce_iload dX7_runScript_22 rfl ?_
  refine ce_iload_n dX7_runScript_24 rfl ?_
  refine ce_icmp_geN (tgt := 57) dX7_runScript_25 (by decide) rfl rfl (by omega) (by omega) (fun c_25 => ?_) (fun c_25 => ?_)
  · omega
  · refine ce_aload_n dX7_runScript_28 rfl ?_
    refine ce_getR dX7_runScript_29 fRX7_33 hX.1 hX.2.1.2.2.2.1 ?_
    refine ce_lload_n dX7_runScript_32 rfl ?_
    refine ce_iload_n dX7_runScript_33 rfl ?_
    refine ce_iconst (v := nI (1)) dX7_runScript_34 (by decide) ?_
    refine ce_isub (z := nI (3 - (1))) dX7_runScript_35 (pk_sub (by omega)) ?_
    refine ce_iload dX7_runScript_36 rfl ?_
    refine ce_isub (z := nI (3 - (1) - (0))) dX7_runScript_38 (pk_sub (by omega)) ?_
    refine ce_cSp dX7_runScript_39 hX7_groupAt kRX7_235 (m_X7_groupAt2 X hX63) rfl rfl (by decide) (Nat.le_of_ble_eq_true rfl) ?_
    refine ce_cVr dX7_runScript_42 hX4_obeys kRX7_239 (m_X4_obeys (a + 345) (sK S) (sO S) hX.2.2.2.2.1 hcg1.1 ok.1 (X / 100000 / 100000 % 100000) (by omega)) rfl rfl hX.2.2.2.2.1.1 rfl (by decide) (Nat.le_of_ble_eq_true rfl) (fun rcg2 cg2 hcg2 => ?_)
    obtain ⟨rfl, hcg22, hcg23⟩ := hcg2
    have ycg2 := (hcg1.2).tr hcg23
    have xcg2 := rX_reh hr hX.2.2.2.1.2.2.2 ycg2
    refine ce_if_neB (tgt := 51) dX7_runScript_45 (by decide) rfl (fun c_45 => ?_) (fun c_45 => ?_)
    · have u0 := kx_run_y (K := (sK S)) (G := X / 100000 / 100000 % 100000) (i := 0) (r := [X / 100000 % 100000, X % 100000]) c_45
      refine ce_iinc (v := nI (1)) dX7_runScript_51 rfl (ce_inc1 _) (Nat.le_of_ble_eq_true rfl) rfl ?_
      refine ce_goto (tgt := 22) dX7_runScript_54 (by decide) ?_
      refine ce_iload dX7_runScript_22 rfl ?_
      refine ce_iload_n dX7_runScript_24 rfl ?_
      refine ce_icmp_geN (tgt := 57) dX7_runScript_25 (by decide) rfl rfl (by omega) (by omega) (fun c_25 => ?_) (fun c_25 => ?_)
      · omega
      · refine ce_aload_n dX7_runScript_28 rfl ?_
        refine ce_getR dX7_runScript_29 fRX7_33 hX.1 hX.2.1.2.2.2.1 ?_
        refine ce_lload_n dX7_runScript_32 rfl ?_
        refine ce_iload_n dX7_runScript_33 rfl ?_
        refine ce_iconst (v := nI (1)) dX7_runScript_34 (by decide) ?_
        refine ce_isub (z := nI (3 - (1))) dX7_runScript_35 (pk_sub (by omega)) ?_
        refine ce_iload dX7_runScript_36 rfl ?_
        refine ce_isub (z := nI (3 - (1) - (1))) dX7_runScript_38 (pk_sub (by omega)) ?_
        refine ce_cSp dX7_runScript_39 hX7_groupAt kRX7_235 (m_X7_groupAt1 X hX63) rfl rfl (by decide) (Nat.le_of_ble_eq_true rfl) ?_
        refine ce_cVr dX7_runScript_42 hX4_obeys kRX7_239 (m_X4_obeys (a + 345) (kd_K (sK S) (X / 100000 / 100000 % 100000)) (kd_O (sK S) (sO S) (X / 100000 / 100000 % 100000)) hX.2.2.2.2.1 hcg22 (cl_kd ok.1 (by omega)) (X / 100000 % 100000) (by omega)) rfl rfl hX.2.2.2.2.1.1 rfl (by decide) (Nat.le_of_ble_eq_true rfl) (fun rcg3 cg3 hcg3 => ?_)
        obtain ⟨rfl, hcg32, hcg33⟩ := hcg3
        have ycg3 := (ycg2).tr hcg33
        have xcg3 := rX_reh hr hX.2.2.2.1.2.2.2 ycg3
        refine ce_if_neB (tgt := 51) dX7_runScript_45 (by decide) rfl (fun c_45 => ?_) (fun c_45 => ?_)
        · have u1 := kx_run_y (K := (kd_K (sK S) (X / 100000 / 100000 % 100000))) (G := X / 100000 % 100000) (i := 1) (r := [X % 100000]) c_45
          refine ce_iinc (v := nI (2)) dX7_runScript_51 rfl (ce_inc1 _) (Nat.le_of_ble_eq_true rfl) rfl ?_
          refine ce_goto (tgt := 22) dX7_runScript_54 (by decide) ?_
          refine ce_iload dX7_runScript_22 rfl ?_
          refine ce_iload_n dX7_runScript_24 rfl ?_
          refine ce_icmp_geN (tgt := 57) dX7_runScript_25 (by decide) rfl rfl (by omega) (by omega) (fun c_25 => ?_) (fun c_25 => ?_)
          · omega
          · refine ce_aload_n dX7_runScript_28 rfl ?_
            refine ce_getR dX7_runScript_29 fRX7_33 hX.1 hX.2.1.2.2.2.1 ?_
            refine ce_lload_n dX7_runScript_32 rfl ?_
            refine ce_iload_n dX7_runScript_33 rfl ?_
            refine ce_iconst (v := nI (1)) dX7_runScript_34 (by decide) ?_
            refine ce_isub (z := nI (3 - (1))) dX7_runScript_35 (pk_sub (by omega)) ?_
            refine ce_iload dX7_runScript_36 rfl ?_
            refine ce_isub (z := nI (3 - (1) - (2))) dX7_runScript_38 (pk_sub (by omega)) ?_
            refine ce_cSp dX7_runScript_39 hX7_groupAt kRX7_235 (m_X7_groupAt0 X hX63) rfl rfl (by decide) (Nat.le_of_ble_eq_true rfl) ?_
            refine ce_cVr dX7_runScript_42 hX4_obeys kRX7_239 (m_X4_obeys (a + 345) (kd_K (kd_K (sK S) (X / 100000 / 100000 % 100000)) (X / 100000 % 100000)) (kd_O (kd_K (sK S) (X / 100000 / 100000 % 100000)) (kd_O (sK S) (sO S) (X / 100000 / 100000 % 100000)) (X / 100000 % 100000)) hX.2.2.2.2.1 hcg32 (cl_kd (cl_kd ok.1 (by omega)) (by omega)) (X % 100000) (by omega)) rfl rfl hX.2.2.2.2.1.1 rfl (by decide) (Nat.le_of_ble_eq_true rfl) (fun rcg4 cg4 hcg4 => ?_)
            obtain ⟨rfl, hcg42, hcg43⟩ := hcg4
            have ycg4 := (ycg3).tr hcg43
            have xcg4 := rX_reh hr hX.2.2.2.1.2.2.2 ycg4
            refine ce_if_neB (tgt := 51) dX7_runScript_45 (by decide) rfl (fun c_45 => ?_) (fun c_45 => ?_)
            · have u2 := kx_run_y (K := (kd_K (kd_K (sK S) (X / 100000 / 100000 % 100000)) (X / 100000 % 100000))) (G := X % 100000) (i := 2) (r := []) c_45
              refine ce_iinc (v := nI (3)) dX7_runScript_51 rfl (ce_inc1 _) (Nat.le_of_ble_eq_true rfl) rfl ?_
              refine ce_goto (tgt := 22) dX7_runScript_54 (by decide) ?_
              refine ce_iload dX7_runScript_22 rfl ?_
              refine ce_iload_n dX7_runScript_24 rfl ?_
              refine ce_icmp_geN (tgt := 57) dX7_runScript_25 (by decide) rfl rfl (by omega) (by omega) (fun c_25 => ?_) (fun c_25 => ?_)
              · refine ce_ldc dX7_runScript_57 kRX7_71 ?_
                refine ce_iret dX7_runScript_59 rfl rfl (by decide) (by decide) ?_
                exact ⟨_, rfl, rfl, congrArg ce_o (((((u0).trans u1)).trans u2)).symm, xcg4, fun x hx => ycg4 x (by omega)⟩
              · omega
            · have u2 := kx_run_n (K := (kd_K (kd_K (sK S) (X / 100000 / 100000 % 100000)) (X / 100000 % 100000))) (G := X % 100000) (i := 2) (r := []) c_45
              refine ce_iload dX7_runScript_48 rfl ?_
              refine ce_iret dX7_runScript_50 rfl rfl (by decide) (by decide) ?_
              exact ⟨_, rfl, rfl, congrArg ce_o (((((u0).trans u1)).trans u2)).symm, xcg4, fun x hx => ycg4 x (by omega)⟩
        · have u1 := kx_run_n (K := (kd_K (sK S) (X / 100000 / 100000 % 100000))) (G := X / 100000 % 100000) (i := 1) (r := [X % 100000]) c_45
          refine ce_iload dX7_runScript_48 rfl ?_
          refine ce_iret dX7_runScript_50 rfl rfl (by decide) (by decide) ?_
          exact ⟨_, rfl, rfl, congrArg ce_o (((u0).trans u1)).symm, xcg3, fun x hx => ycg3 x (by omega)⟩
    · have u0 := kx_run_n (K := (sK S)) (G := X / 100000 / 100000 % 100000) (i := 0) (r := [X / 100000 % 100000, X % 100000]) c_45
      refine ce_iload dX7_runScript_48 rfl ?_
      refine ce_iret dX7_runScript_50 rfl rfl (by decide) (by decide) ?_
      exact ⟨_, rfl, rfl, congrArg ce_o (u0).symm, xcg2, fun x hx => ycg2 x (by omega)⟩
set_option maxHeartbeats 2000000 in
set_option maxRecDepth 20000 in
theorem m_X7_runScript_no {σ : ce_S} {g : ce_D} (a : Nat) (b : Nat → Nat) (S : ks_S) (hX : ce_LX σ a b) (hr : ce_rX g a b S) (ok : ks_ok S) (x : Int32) (t : Int64) (f : Nat) (hf : kx_scr x t = f) (h0 : f ≠ 0) (h3 : f ≤ 3) : ce_CT (ce_rx 2) mX7_runScript [.ref (a), .int (x), .long (t)] σ g (fun _ _ _ => False) (kx_X f σ g) := by
  refine ce_enter (by decide) rfl (Nat.le_of_ble_eq_true rfl) (L := [some (.ref (a)), some (.int (x)), some (.long (t)), none, none]) rfl ?_
  refine ce_iload_n dX7_runScript_0 rfl ?_
  refine ce_lload_n dX7_runScript_1 rfl ?_
  refine ce_cSp dX7_runScript_2 hX7_scriptFault kRX7_231 (hf ▸ m_X7_scriptFault x t) rfl rfl (by decide) (Nat.le_of_ble_eq_true rfl) ?_
  exact ce_callSX dX7_runScript_5 hX7_check kRX7_56 (m_X7_checkX f h0 h3) rfl rfl (by decide) (by decide) (by decide) (by decide) (fun v σ1 g1 h => h.elim) (fun E σ1 g1 h => ce_xout rfl (by decide) (by decide) h)
set_option maxHeartbeats 2000000 in
set_option maxRecDepth 20000 in
theorem w_X7_simulate {σ : ce_S} (g0 : ce_D) (a : Nat) (b : Nat → Nat) (S : ks_S) (hX : ce_LX σ a b) (hr : ce_rX g0 a b S) (m : Nat) (hm9 : m < 1000) (T : ce_V) : ∀ (n9 : Nat) (g : ce_D) (i : Nat) (x : Int64) (K : ce_V) (O : Nat → Int32), m - i < n9 → i ≤ m → ce_rC g (a + 345 + 1) K O → kv_cl K → kx_sim (m - i) x K = T → ce_fr (a + 345 + 1) (a + 345 + 1 + 20) g0 g → ce_WP (ce_r 6) mX7_simulate 0 0 27 [some (.ref (a)), none, none, some (.int (nI (m))), some (.long (x)), none, some (.int (nI (i)))] [] σ g (ce_rv σ (fun z9 g1 => z9 = nI (1000 * ce_sum (T 9) 36 + kv_emp T (T 0 2)) ∧ ce_rX g1 a b S ∧ ce_fr a (a + 411) g0 g1)) ce_no := by
  intro n9
  induction n9 with
  | zero =>
    intros
    omega
  | succ n9 ih =>
    intro g i x K O hm hi hc hk hT hf
    refine ce_iload dX7_simulate_27 rfl ?_
    refine ce_iload_n dX7_simulate_29 rfl ?_
    refine ce_icmp_geN (tgt := 64) dX7_simulate_30 (by decide) rfl rfl (by omega) (by omega) (fun c_30 => ?_) (fun c_30 => ?_)
    · refine ce_sipush (v := nI (1000)) dX7_simulate_64 (by decide) ?_
      refine ce_aload_n dX7_simulate_67 rfl ?_
      refine ce_getR dX7_simulate_68 fRX7_33 hX.1 hX.2.1.2.2.2.1 ?_
      refine ce_getR dX7_simulate_71 fRX7_210 hX.2.2.2.2.1.1 hX.2.2.2.2.1.2.1 ?_
      refine ce_getR dX7_simulate_74 fRX7_249 (hX.2.2.2.2.1.2.2).1 (hX.2.2.2.2.1.2.2).2.2.1.2.2.1 ?_
      refine ce_cVp dX7_simulate_77 hX5_ofAll kRX7_252 (n_X5_ofAll (hX.2.2.2.2.1.2.2).2.2.2.2.1.2.2.1 (K 9) (fun j hj => (hc).t 9 (by decide) hj)) rfl rfl ((hX.2.2.2.2.1.2.2).2.2.2.2.1.2.2.1).1 rfl (by decide) (Nat.le_of_ble_eq_true rfl) ?_
      refine ce_imul (z := nI ((1000) * (ce_sum (K 9) 36))) dX7_simulate_80 (pk_mul _ _) ?_
      refine ce_aload_n dX7_simulate_81 rfl ?_
      refine ce_getR dX7_simulate_82 fRX7_33 hX.1 hX.2.1.2.2.2.1 ?_
      refine ce_getR dX7_simulate_85 fRX7_210 hX.2.2.2.2.1.1 hX.2.2.2.2.1.2.1 ?_
      refine ce_getR dX7_simulate_88 fRX7_107 (hX.2.2.2.2.1.2.2).1 (hX.2.2.2.2.1.2.2).2.2.1.2.2.2.2 ?_
      refine ce_cVp dX7_simulate_91 hX3_emptyBins kRX7_255 (m_X3_emptyBins _ K (hX.2.2.2.2.1.2.2).2.2.2.2.2 (hc).k hk.rk) rfl rfl ((hX.2.2.2.2.1.2.2).2.2.2.2.2).1 rfl (by decide) (Nat.le_of_ble_eq_true rfl) ?_
      refine ce_iadd (z := nI ((1000) * (ce_sum (K 9) 36) + (kv_emp K (K 0 2)))) dX7_simulate_94 (nI_add _ _) ?_
      refine ce_iret dX7_simulate_95 rfl rfl (by decide) (by decide) ?_
      have hTK : K = T := by rw [← hT, show m - i = 0 by omega]; rfl
      exact ⟨_, rfl, rfl, congrArg nI (by rw [hTK]), rX_reh hr hX.2.2.2.1.2.2.2 hf, fun x hx => hf x (by omega)⟩
    · refine ce_lload dX7_simulate_33 rfl ?_
      refine ce_ldc2 dX7_simulate_35 kRX7_242 ?_
      refine ce_lmul (z := x * 6364136223846793005) dX7_simulate_38 rfl ?_
      refine ce_ldc2 dX7_simulate_39 kRX7_244 ?_
      refine ce_ladd (z := ke_x x) dX7_simulate_42 rfl ?_
      refine ce_lstore dX7_simulate_43 (Nat.le_of_ble_eq_true rfl) rfl ?_
      refine ce_aload_n dX7_simulate_45 rfl ?_
      refine ce_getR dX7_simulate_46 fRX7_33 hX.1 hX.2.1.2.2.2.1 ?_
      refine ce_lload dX7_simulate_49 rfl ?_
      refine ce_bipush (v := nI (33)) dX7_simulate_51 (by decide) ?_
      refine ce_lushr (v := ((ke_x x).toUInt64 >>> ((nI 33).toInt64.toUInt64 &&& Int64.toUInt64 63)).toInt64) dX7_simulate_53 rfl ?_
      refine ce_l2i (v := nI (ke_R (ke_x x))) dX7_simulate_54 (ke_R_eq _) ?_
      refine ce_cVu dX7_simulate_55 hX4_spendEvening kRX7_246 (m_X4_spendEvening (a + 345) K O hX.2.2.2.2.1 hc hk (ke_R (ke_x x)) (ke_R_lt _)) rfl rfl hX.2.2.2.2.1.1 rfl (by decide) (Nat.le_of_ble_eq_true rfl) (fun cg1 hcg1 => ?_)
      refine ce_iinc (v := nI (i + 1)) dX7_simulate_58 rfl (ce_inc1 _) (Nat.le_of_ble_eq_true rfl) rfl ?_
      refine ce_goto (tgt := 27) dX7_simulate_61 (by decide) ?_
      exact ih cg1 (i + 1) (ke_x x) (kx_eK K (ke_R (ke_x x))) (kx_eO K O (ke_R (ke_x x))) (by omega) (by omega) hcg1.1 (cl_ev hk (ke_R_lt _)) (by rw [← hT, show m - i = m - (i + 1) + 1 by omega]; rfl) (hf.tr hcg1.2)
set_option maxHeartbeats 2000000 in
set_option maxRecDepth 20000 in
theorem m_X7_simulate_ok {σ : ce_S} {g : ce_D} (a : Nat) (b : Nat → Nat) (S : ks_S) (hX : ce_LX σ a b) (hr : ce_rX g a b S) (ok : ks_ok S) (x : Int64) (m : Nat) (hm9 : m < 1000) (hf : kx_ran (nI m) (nI 1).toInt (nI 99).toInt = 0) : ce_CT (ce_r 6) mX7_simulate [.ref (a), .long (x), .int (nI (m))] σ g (ce_rv σ (fun z9 g1 => z9 = nI (1000 * ce_sum ((kx_sim m x (sK S)) 9) 36 + kv_emp (kx_sim m x (sK S)) ((kx_sim m x (sK S)) 0 2)) ∧ ce_rX g1 a b S ∧ ce_fr a (a + 411) g g1)) ce_no := by
  refine ce_enter (by decide) rfl (Nat.le_of_ble_eq_true rfl) (L := [some (.ref (a)), some (.long (x)), none, some (.int (nI (m))), none, none, none]) rfl ?_
  refine ce_iload_n dX7_simulate_0 rfl ?_
  refine ce_iconst (v := nI (1)) dX7_simulate_1 (by decide) ?_
  refine ce_bipush (v := nI (99)) dX7_simulate_2 (by decide) ?_
  refine ce_cSp dX7_simulate_4 hX7_rangeFault kRX7_86 (hf ▸ m_X7_rangeFault (nI (m)) (nI (1)) (nI (99))) rfl rfl (by decide) (Nat.le_of_ble_eq_true rfl) ?_
  refine ce_cSq dX7_simulate_7 hX7_check kRX7_56 (m_X7_check0) rfl rfl (by decide) (Nat.le_of_ble_eq_true rfl) ?_
  refine ce_aload_n dX7_simulate_10 rfl ?_
  refine ce_getR dX7_simulate_11 fRX7_33 hX.1 hX.2.1.2.2.2.1 ?_
  refine ce_aload_n dX7_simulate_14 rfl ?_
  refine ce_getR dX7_simulate_15 fRX7_10 hX.1 hX.2.1.1 ?_
  refine ce_cVu dX7_simulate_18 hX4_begin kRX7_204 (m_X4_begin (a + 345) (a + 1) (sK S) (sO S) hX.2.2.2.2.1 hX.2.2.1 hr.1 ok.1.rk (by omega)) rfl rfl hX.2.2.2.2.1.1 rfl (by decide) (Nat.le_of_ble_eq_true rfl) (fun cg1 hcg1 => ?_)
  have xcg1 := rX_reh hr hX.2.2.2.1.2.2.2 hcg1.2
  refine ce_lload_n dX7_simulate_21 rfl ?_
  refine ce_lstore dX7_simulate_22 (Nat.le_of_ble_eq_true rfl) rfl ?_
  refine ce_iconst (v := nI (0)) dX7_simulate_24 (by decide) ?_
  refine ce_istore dX7_simulate_25 (Nat.le_of_ble_eq_true rfl) rfl ?_
  refine ce_drop (L' := [some (.ref (a)), none, none, some (.int (nI (m))), some (.long (x)), none, some (.int (nI (0)))]) (ce_le_s rfl (ce_le_n (ce_le_n (ce_le_s rfl (ce_le_s rfl (ce_le_n (ce_le_s rfl ce_le_e))))))) ?_
  exact w_X7_simulate g a b S hX hr m hm9 (kx_sim m x (sK S)) (m + 1) cg1 0 x (sK S) (sO S) (by omega) (by omega) hcg1.1 ok.1 rfl hcg1.2
set_option maxHeartbeats 2000000 in
set_option maxRecDepth 20000 in
theorem m_X7_simulate_no {σ : ce_S} {g : ce_D} (a : Nat) (b : Nat → Nat) (S : ks_S) (hX : ce_LX σ a b) (hr : ce_rX g a b S) (ok : ks_ok S) (x : Int64) (z : Int32) (f : Nat) (hf : kx_ran z (nI 1).toInt (nI 99).toInt = f) (h0 : f ≠ 0) (h3 : f ≤ 3) : ce_CT (ce_rx 2) mX7_simulate [.ref (a), .long (x), .int (z)] σ g (fun _ _ _ => False) (kx_X f σ g) := by
  refine ce_enter (by decide) rfl (Nat.le_of_ble_eq_true rfl) (L := [some (.ref (a)), some (.long (x)), none, some (.int (z)), none, none, none]) rfl ?_
  refine ce_iload_n dX7_simulate_0 rfl ?_
  refine ce_iconst (v := nI (1)) dX7_simulate_1 (by decide) ?_
  refine ce_bipush (v := nI (99)) dX7_simulate_2 (by decide) ?_
  refine ce_cSp dX7_simulate_4 hX7_rangeFault kRX7_86 (hf ▸ m_X7_rangeFault z (nI (1)) (nI (99))) rfl rfl (by decide) (Nat.le_of_ble_eq_true rfl) ?_
  exact ce_callSX dX7_simulate_7 hX7_check kRX7_56 (m_X7_checkX f h0 h3) rfl rfl (by decide) (by decide) (by decide) (by decide) (fun v σ1 g1 h => h.elim) (fun E σ1 g1 h => ce_xout rfl (by decide) (by decide) h)
