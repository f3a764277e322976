set_option maxHeartbeats 2000000 in
set_option maxRecDepth 20000 in
theorem fo_3c {a : Nat} {Kz : ce_V} {Oz : Nat → Int32} {sz : ((Nat → Bool) × (Nat → ce_V) × (Nat → Nat → Int32)) × (Nat × (Nat → Nat))} {σ0 : ce_S} {g0 : ce_D} {xz : Nat} (hx : xz < 2147483648) {Q : Option Value → ce_S → ce_D → Prop} {X : String → ce_S → ce_D → Prop} {iz wz : Nat} (hi : iz < Kz 0 0) (hwz : wz < Kz 0 1) (h5 : Kz 5 wz = 0) (kk : ∀ (kz : Nat) (S : ks_S) (σ : ce_S) (g : ce_D), kw a S σ0 g0 σ g → kl_iv S → S.1 = (Kz, Oz) → S.2.2 = sz → kz ≤ 46 → ce_WP (ce_rl 2 60) mL_follows (kz) (6 * (kz)) 467 [some (.ref (a)), some (.int (nI (xz))), some (.long (nw Kz Oz)), none, some (.int (nI (Kz 0 0))), some (.int (nI (Kz 0 1))), some (.long (lN (ce_sum (Kz 9) 36))), none, some (.int (nI (1))), some (.int (nI (iz))), some (.int (nI (wz))), some (.long (lN (Kz 2 wz))), none, none, none, none, none, none, none, none, none, none, none] [] σ g Q X) {kz : Nat} {S : ks_S} {σ : ce_S} {g : ce_D} (hw : kw a S σ0 g0 σ g) (iv : kl_iv S) (h1 : S.1 = (Kz, Oz)) (h2 : S.2.2 = sz) (hkz : kz ≤ 37) : ce_WP (ce_rl 2 60) mL_follows (kz) (6 * (kz)) 384 [some (.ref (a)), some (.int (nI (xz))), some (.long (nw Kz Oz)), none, some (.int (nI (Kz 0 0))), some (.int (nI (Kz 0 1))), some (.long (lN (ce_sum (Kz 9) 36))), none, some (.int (nI (1))), some (.int (nI (iz))), some (.int (nI (wz))), some (.long (lN (Kz 2 wz))), none, some (.long (lN (kv_all Kz wz 8 (iz * 6 + wz)))), none, none, none, none, none, none, none, none, none] [] σ g Q X := by
  obtain ⟨hz, rfl⟩ : ∃ hz, S = SS Kz Oz hz sz := ⟨_, SS_of h1 h2⟩
  have hk : kv_cl Kz := iv.ok.1
  have hj : kj Kz Oz := iv.kj.1
  have b9 := hk.b
  have c36 := hk.b9
  have hw6 : wz < 6 := by omega
  have hbo := hk.bo wz hw6
  have hmin := kv_all_min hk hw6 h5
  have hd : kv_all Kz wz 8 (iz * 6 + wz) ≤ 60 := kv_all_8 hk hw6 iz
  have hpr := hk.pr wz
  have hpo := hk.po iz
  have hod := hk.od (iz * 6 + wz)
  have hhf := kv_half_le hpr hd
  have f1 := fm_pts (K := Kz) (w := wz) hi
  have f2 := fm_owe hk hj hw6 h5 hi
  have hk2 := cl_all hk hwz h5
  have h51 : kv_all Kz wz 5 wz = 1 := kv_all_5.trans (if_pos rfl)
  have f3 := fm_cel hk2 hw6 h51
  have f4 := fm_owe2 hk hj hwz h5 hi
  have f5 : kv_bri (kv_all Kz wz) wz 9 (iz * 6 + wz) = kv_all Kz wz 8 (iz * 6 + wz) := fm_has hw6 (by rw [kv_all_ne (by decide)]; exact hi)
  have f6 : ce_sum (kv_all Kz wz 9) 36 = ce_sum (Kz 9) 36 := congrArg (fun f => ce_sum f 36) (funext fun _ => kv_all_ne (by decide))
  have hbr := hk2.bro wz
  have f7 := kv_all_more (K := Kz) (i := iz) (w := wz) (n := 60) hod
  have f8 : kv_ord Kz iz wz 60 7 (iz * 6 + wz) = 60 := fm_ord7
  have h5o : kv_ord Kz iz wz 60 5 wz = 0 := by unfold kv_ord; rw [kv_up_ne (by decide)]; exact h5
  have hd2 : kv_all (kv_ord Kz iz wz 60) wz 8 (iz * 6 + wz) ≤ 60 := kv_all_8 (cl_ord hk hi hwz (by omega)) hw6 iz
  refine ce_aload_n dL_follows_384 rfl ?_
  refine ce_iload dL_follows_385 rfl ?_
  refine ce_iload dL_follows_387 rfl ?_
  refine ce_bipush (v := nI (60)) dL_follows_389 (by decide) ?_
  have hqc391 := (q_ord hw iv (m := iz) (w := wz) (n := 60) (by show iz < Kz 0 0; omega) (by show wz < Kz 0 1; omega) (by omega) h5)
  refine kc_Wk (V := lN (Kz 7 (iz * 6 + wz))) dL_follows_391 hL_order kRL_137 hqc391 rfl rfl (by decide) (Nat.le_of_ble_eq_true rfl) rfl (by show _ ≤ 60; omega) (fun cs1 cg1 hcg1 => ?_)
  have iv28 := iv_ord iv (m := iz) (w := wz) (n := 60) (by show iz < Kz 0 0; omega) (by show wz < Kz 0 1; omega) (by omega) h5
  have hM4 : (kv_ord Kz iz wz (60)) 0 0 = Kz 0 0 := (by unfold kv_ord; rw [kv_up_ne (by decide)])
  have hW4 : (kv_ord Kz iz wz (60)) 0 1 = Kz 0 1 := (by unfold kv_ord; rw [kv_up_ne (by decide)])
  refine ce_lstore dL_follows_394 (Nat.le_of_ble_eq_true rfl) rfl ?_
  refine ce_iload dL_follows_396 rfl ?_
  refine ce_if_eqN (tgt := 464) dL_follows_398 (by decide) rfl (by omega) (fun c_398 => ?_) (fun c_398 => ?_)
  · omega
  · refine ce_aload_n dL_follows_401 rfl ?_
    refine ce_iload dL_follows_402 rfl ?_
    refine ce_iload dL_follows_404 rfl ?_
    have hqc406 := (q_wg hcg1 iv28 (m := iz) (w := wz) (by show iz < (kv_ord Kz iz wz (60)) 0 0; omega) (by show wz < (kv_ord Kz iz wz (60)) 0 1; omega) h5o)
    refine kc_Wk (V := lN (kv_all (kv_ord Kz iz wz (60)) wz 8 (iz * 6 + wz))) dL_follows_406 hL_wouldGet kRL_158 hqc406 rfl rfl (by decide) (Nat.le_of_ble_eq_true rfl) rfl (by show _ ≤ 60; omega) (fun cs2 cg2 hcg2 => ?_)
    refine ce_lload dL_follows_409 rfl ?_
    refine ce_lcmp (z := lg_cmp (lN (kv_all (kv_ord Kz iz wz (60)) wz 8 (iz * 6 + wz))) (lN (kv_all Kz wz 8 (iz * 6 + wz)))) dL_follows_411 rfl ?_
    refine ce_if_ltL (a := kv_all (kv_ord Kz iz wz (60)) wz 8 (iz * 6 + wz)) (b := kv_all Kz wz 8 (iz * 6 + wz)) (tgt := 464) dL_follows_412 (by decide) rfl (by omega) (by omega) (fun c_412 => ?_) (fun c_412 => ?_)
    · omega
    · refine ce_aload_n dL_follows_415 rfl ?_
      refine ce_iload dL_follows_416 rfl ?_
      refine ce_iload dL_follows_418 rfl ?_
      refine ce_lload dL_follows_420 rfl ?_
      refine ce_l2i (v := nI (Kz 7 (iz * 6 + wz))) dL_follows_422 (lN_i _) ?_
      have hqc423 := (q_ord hcg2 iv28 (m := iz) (w := wz) (n := Kz 7 (iz * 6 + wz)) (by show iz < (kv_ord Kz iz wz (60)) 0 0; omega) (by show wz < (kv_ord Kz iz wz (60)) 0 1; omega) (by omega) h5o)
      refine kc_Wk (V := lN (kv_ord Kz iz wz 60 7 (iz * 6 + wz))) dL_follows_423 hL_order kRL_137 hqc423 rfl rfl (by decide) (Nat.le_of_ble_eq_true rfl) rfl (by show _ ≤ 60; omega) (fun cs3 cg3 hcg3 => ?_)
      have iv29 := iv_ord iv28 (m := iz) (w := wz) (n := Kz 7 (iz * 6 + wz)) (by show iz < (kv_ord Kz iz wz (60)) 0 0; omega) (by show wz < (kv_ord Kz iz wz (60)) 0 1; omega) (by omega) h5o
      refine ce_ldc2 (v := lN 60) dL_follows_426 kRL_200 ?_
      refine ce_lcmp (z := lg_cmp (lN (kv_ord Kz iz wz 60 7 (iz * 6 + wz))) (lN (60))) dL_follows_429 rfl ?_
      refine ce_if_neL (a := kv_ord Kz iz wz 60 7 (iz * 6 + wz)) (b := 60) (tgt := 464) dL_follows_430 (by decide) rfl (by omega) (by omega) (fun c_430 => ?_) (fun c_430 => ?_)
      · omega
      · refine ce_aload_n dL_follows_433 rfl ?_
        have hqc434 := (m_L_now hcg3 iv29)
        refine kc_Sj (V := nw (kv_ord (kv_ord Kz iz wz 60) iz wz (Kz 7 (iz * 6 + wz))) Oz) dL_follows_434 hL_now kRL_131 hqc434 rfl rfl (by decide) (Nat.le_of_ble_eq_true rfl) rfl (by show _ ≤ 60; omega) ?_
        refine ce_lload_n dL_follows_437 rfl ?_
        refine ce_lcmp (z := lg_cmp (nw (kv_ord (kv_ord Kz iz wz 60) iz wz (Kz 7 (iz * 6 + wz))) Oz) (nw Kz Oz)) dL_follows_438 rfl ?_
        refine ce_if_neC (tgt := 464) dL_follows_439 (by decide) rfl (fun c_439 => ?_) (fun c_439 => ?_)
        · exact absurd (congrArg (fun f => nw f Oz) (fm_ord2 (K := Kz) (m := iz) (w := wz) (n := 60))) c_439
        · refine ce_aload_n dL_follows_442 rfl ?_
          refine kc_Wu dL_follows_443 hL_undo kRL_198 (Nat.le_trans (Nat.sub_le _ _) (iv29).n) (q_undo hcg3 iv29 ks_back.1) rfl rfl (by decide) (Nat.le_of_ble_eq_true rfl) rfl (by show _ ≤ 60; omega) (fun ucg4 hucg4 cs4 cg4 hcg4 => ?_)
          have iv30 := iv_undo iv29 ks_back.1
          refine ce_lconst (v := lN 0) dL_follows_446 (by decide) ?_
          refine ce_lcmp (z := lg_cmp (lN (ucg4)) (lN (0))) dL_follows_447 rfl ?_
          refine ce_if_ltL (a := ucg4) (b := 0) (tgt := 464) dL_follows_448 (by decide) rfl (by omega) (by omega) (fun c_448 => ?_) (fun c_448 => ?_)
          · omega
          · refine ce_aload_n dL_follows_451 rfl ?_
            refine kc_Wu dL_follows_452 hL_undo kRL_198 (Nat.le_trans (Nat.sub_le _ _) (iv30).n) (q_undo hcg4 iv30 ks_back2.1) rfl rfl (by decide) (Nat.le_of_ble_eq_true rfl) rfl (by show _ ≤ 60; omega) (fun ucg5 hucg5 cs5 cg5 hcg5 => ?_)
            have iv31 := iv_undo iv30 ks_back2.1
            obtain ⟨hz32, hw33, iv34⟩ := kw_back (K := Kz) (O := Oz) (s := sz) hcg5 iv31 ks_back2.2.1 ks_back2.2.2
            refine ce_lconst (v := lN 0) dL_follows_455 (by decide) ?_
            refine ce_lcmp (z := lg_cmp (lN (ucg5)) (lN (0))) dL_follows_456 rfl ?_
            refine ce_if_ltL (a := ucg5) (b := 0) (tgt := 464) dL_follows_457 (by decide) rfl (by omega) (by omega) (fun c_457 => ?_) (fun c_457 => ?_)
            · omega
            · refine ce_iconst (v := nI (1)) dL_follows_460 (by decide) ?_
              refine ce_goto (tgt := 465) dL_follows_461 (by decide) ?_
              refine ce_istore dL_follows_465 (Nat.le_of_ble_eq_true rfl) rfl ?_
              refine ce_drop (L' := [some (.ref (a)), some (.int (nI (xz))), some (.long (nw Kz Oz)), none, some (.int (nI (Kz 0 0))), some (.int (nI (Kz 0 1))), some (.long (lN (ce_sum (Kz 9) 36))), none, some (.int (nI (1))), some (.int (nI (iz))), some (.int (nI (wz))), some (.long (lN (Kz 2 wz))), none, none, none, none, none, none, none, none, none, none, none]) (ce_le_s rfl (ce_le_s rfl (ce_le_s rfl (ce_le_n (ce_le_s rfl (ce_le_s rfl (ce_le_s rfl (ce_le_n (ce_le_s rfl (ce_le_s rfl (ce_le_s rfl (ce_le_s rfl (ce_le_n (ce_le_n (ce_le_n (ce_le_n (ce_le_n (ce_le_n (ce_le_n (ce_le_n (ce_le_n (ce_le_n (ce_le_n ce_le_e))))))))))))))))))))))) ?_
              exact kk _ _ _ _ hw33 iv34 rfl rfl (by omega)
set_option maxHeartbeats 2000000 in
set_option maxRecDepth 20000 in
theorem fo_3b {a : Nat} {Kz : ce_V} {Oz : Nat → Int32} {sz : ((Nat → Bool) × (Nat → ce_V) × (Nat → Nat → Int32)) × (Nat × (Nat → Nat))} {σ0 : ce_S} {g0 : ce_D} {xz : Nat} (hx : xz < 2147483648) {Q : Option Value → ce_S → ce_D → Prop} {X : String → ce_S → ce_D → Prop} {iz wz : Nat} (hi : iz < Kz 0 0) (hwz : wz < Kz 0 1) (h5 : Kz 5 wz = 0) (kk : ∀ (kz : Nat) (S : ks_S) (σ : ce_S) (g : ce_D), kw a S σ0 g0 σ g → kl_iv S → S.1 = (Kz, Oz) → S.2.2 = sz → kz ≤ 46 → ce_WP (ce_rl 2 60) mL_follows (kz) (6 * (kz)) 467 [some (.ref (a)), some (.int (nI (xz))), some (.long (nw Kz Oz)), none, some (.int (nI (Kz 0 0))), some (.int (nI (Kz 0 1))), some (.long (lN (ce_sum (Kz 9) 36))), none, some (.int (nI (1))), some (.int (nI (iz))), some (.int (nI (wz))), some (.long (lN (Kz 2 wz))), none, none, none, none, none, none, none, none, none, none, none] [] σ g Q X) {hz : Nat × (Nat → ce_V) × (Nat → Nat → Int32)} (iv : kl_iv (SS Kz Oz hz sz)) {kz : Nat} {σ : ce_S} {g : ce_D} (hw : kw a (ks_act (SS Kz Oz hz sz) (kv_all Kz wz) (ko_all Kz wz Oz)) σ0 g0 σ g) (ivA : kl_iv (ks_act (SS Kz Oz hz sz) (kv_all Kz wz) (ko_all Kz wz Oz))) (hkz : kz ≤ 33) : ce_WP (ce_rl 2 60) mL_follows (kz) (6 * (kz)) 261 [some (.ref (a)), some (.int (nI (xz))), some (.long (nw Kz Oz)), none, some (.int (nI (Kz 0 0))), some (.int (nI (Kz 0 1))), some (.long (lN (ce_sum (Kz 9) 36))), none, some (.int (nI (1))), some (.int (nI (iz))), some (.int (nI (wz))), some (.long (lN (Kz 2 wz))), none, some (.long (lN (kv_all Kz wz 8 (iz * 6 + wz)))), none, some (.long ((Oz iz).toInt64)), none, some (.long (lN (Kz 1 iz))), none, some (.long (lN (kv_sum (kv_all Kz wz) 8 wz))), none, none, none] [] σ g Q X := by
  have hk : kv_cl Kz := iv.ok.1
  have hj : kj Kz Oz := iv.kj.1
  have b9 := hk.b
  have c36 := hk.b9
  have hw6 : wz < 6 := by omega
  have hbo := hk.bo wz hw6
  have hmin := kv_all_min hk hw6 h5
  have hd : kv_all Kz wz 8 (iz * 6 + wz) ≤ 60 := kv_all_8 hk hw6 iz
  have hpr := hk.pr wz
  have hpo := hk.po iz
  have hod := hk.od (iz * 6 + wz)
  have hhf := kv_half_le hpr hd
  have f1 := fm_pts (K := Kz) (w := wz) hi
  have f2 := fm_owe hk hj hw6 h5 hi
  have hk2 := cl_all hk hwz h5
  have h51 : kv_all Kz wz 5 wz = 1 := kv_all_5.trans (if_pos rfl)
  have f3 := fm_cel hk2 hw6 h51
  have f4 := fm_owe2 hk hj hwz h5 hi
  have f5 : kv_bri (kv_all Kz wz) wz 9 (iz * 6 + wz) = kv_all Kz wz 8 (iz * 6 + wz) := fm_has hw6 (by rw [kv_all_ne (by decide)]; exact hi)
  have f6 : ce_sum (kv_all Kz wz 9) 36 = ce_sum (Kz 9) 36 := congrArg (fun f => ce_sum f 36) (funext fun _ => kv_all_ne (by decide))
  have hbr := hk2.bro wz
  have f7 := kv_all_more (K := Kz) (i := iz) (w := wz) (n := 60) hod
  have f8 : kv_ord Kz iz wz 60 7 (iz * 6 + wz) = 60 := fm_ord7
  have h5o : kv_ord Kz iz wz 60 5 wz = 0 := by unfold kv_ord; rw [kv_up_ne (by decide)]; exact h5
  have hd2 : kv_all (kv_ord Kz iz wz 60) wz 8 (iz * 6 + wz) ≤ 60 := kv_all_8 (cl_ord hk hi hwz (by omega)) hw6 iz
  have hM2 : (kv_all Kz wz) 0 0 = Kz 0 0 := kv_all_ne (by decide)
  have hW2 : (kv_all Kz wz) 0 1 = Kz 0 1 := kv_all_ne (by decide)
  refine ce_aload_n dL_follows_261 rfl ?_
  refine ce_iload dL_follows_262 rfl ?_
  have hqc264 := (q_room hw ivA (w := wz) (by show wz < (kv_all Kz wz) 0 1; omega))
  refine kc_Wj (V := lN (ce_sum (kv_room (kv_all Kz wz) wz) ((kv_all Kz wz) 0 2))) dL_follows_264 hL_roomFor kRL_164 hqc264 rfl rfl (by decide) (Nat.le_of_ble_eq_true rfl) rfl (by show _ ≤ 60; omega) ?_
  refine ce_lload dL_follows_267 rfl ?_
  refine ce_lcmp (z := lg_cmp (lN (ce_sum (kv_room (kv_all Kz wz) wz) ((kv_all Kz wz) 0 2))) (lN (kv_sum (kv_all Kz wz) 8 wz))) dL_follows_269 rfl ?_
  refine ce_if_ltL (a := ce_sum (kv_room (kv_all Kz wz) wz) ((kv_all Kz wz) 0 2)) (b := kv_sum (kv_all Kz wz) 8 wz) (tgt := 354) dL_follows_270 (by decide) rfl (by omega) (by omega) (fun c_270 => ?_) (fun c_270 => ?_)
  · refine ce_iload dL_follows_354 rfl ?_
    refine ce_if_eqN (tgt := 381) dL_follows_356 (by decide) rfl (by omega) (fun c_356 => ?_) (fun c_356 => ?_)
    · omega
    · refine ce_aload_n dL_follows_359 rfl ?_
      refine kc_Wu dL_follows_360 hL_undo kRL_198 (Nat.le_trans (Nat.sub_le _ _) (ivA).n) (q_undo hw ivA ks_back.1) rfl rfl (by decide) (Nat.le_of_ble_eq_true rfl) rfl (by show _ ≤ 60; omega) (fun ucg1 hucg1 cs1 cg1 hcg1 => ?_)
      have iv35 := iv_undo ivA ks_back.1
      obtain ⟨hz36, hw37, iv38⟩ := kw_back (K := Kz) (O := Oz) (s := sz) hcg1 iv35 ks_back.2.1 ks_back.2.2
      refine ce_lconst (v := lN 0) dL_follows_363 (by decide) ?_
      refine ce_lcmp (z := lg_cmp (lN (ucg1)) (lN (0))) dL_follows_364 rfl ?_
      refine ce_if_ltL (a := ucg1) (b := 0) (tgt := 381) dL_follows_365 (by decide) rfl (by omega) (by omega) (fun c_365 => ?_) (fun c_365 => ?_)
      · omega
      · refine ce_aload_n dL_follows_368 rfl ?_
        have hqc369 := (m_L_now hw37 iv38)
        refine kc_Sj (V := nw Kz Oz) dL_follows_369 hL_now kRL_131 hqc369 rfl rfl (by decide) (Nat.le_of_ble_eq_true rfl) rfl (by show _ ≤ 60; omega) ?_
        refine ce_lload_n dL_follows_372 rfl ?_
        refine ce_lcmp (z := lg_cmp (nw Kz Oz) (nw Kz Oz)) dL_follows_373 rfl ?_
        refine ce_if_neC (tgt := 381) dL_follows_374 (by decide) rfl (fun c_374 => ?_) (fun c_374 => ?_)
        · exact absurd rfl c_374
        · refine ce_iconst (v := nI (1)) dL_follows_377 (by decide) ?_
          refine ce_goto (tgt := 382) dL_follows_378 (by decide) ?_
          refine ce_istore dL_follows_382 (Nat.le_of_ble_eq_true rfl) rfl ?_
          refine ce_drop (L' := [some (.ref (a)), some (.int (nI (xz))), some (.long (nw Kz Oz)), none, some (.int (nI (Kz 0 0))), some (.int (nI (Kz 0 1))), some (.long (lN (ce_sum (Kz 9) 36))), none, some (.int (nI (1))), some (.int (nI (iz))), some (.int (nI (wz))), some (.long (lN (Kz 2 wz))), none, some (.long (lN (kv_all Kz wz 8 (iz * 6 + wz)))), none, none, none, none, none, none, none, none, none]) (ce_le_s rfl (ce_le_s rfl (ce_le_s rfl (ce_le_n (ce_le_s rfl (ce_le_s rfl (ce_le_s rfl (ce_le_n (ce_le_s rfl (ce_le_s rfl (ce_le_s rfl (ce_le_s rfl (ce_le_n (ce_le_s rfl (ce_le_n (ce_le_n (ce_le_n (ce_le_n (ce_le_n (ce_le_n (ce_le_n (ce_le_n (ce_le_n ce_le_e))))))))))))))))))))))) ?_
          exact fo_3c hx hi hwz h5 kk hw37 iv38 rfl rfl (by omega)
  · refine ce_iload dL_follows_273 rfl ?_
    refine ce_if_eqN (tgt := 354) dL_follows_275 (by decide) rfl (by omega) (fun c_275 => ?_) (fun c_275 => ?_)
    · omega
    · have hro : kv_sum (kv_all Kz wz) 8 wz ≤ ce_sum (kv_room (kv_all Kz wz) wz) (kv_all Kz wz 0 2) := c_270
      refine ce_aload_n dL_follows_278 rfl ?_
      refine ce_iload dL_follows_279 rfl ?_
      have hqc281 := (q_del hw ivA (w := wz) (by show wz < (kv_all Kz wz) 0 1; omega) h51 hro)
      refine kc_Wk (V := lN (kv_sum (kv_all Kz wz) 8 wz)) dL_follows_281 hL_deliver kRL_152 hqc281 rfl rfl (by decide) (Nat.le_of_ble_eq_true rfl) rfl (by show _ ≤ 60; omega) (fun cs1 cg1 hcg1 => ?_)
      have iv39 := iv_del ivA (w := wz) (by show wz < (kv_all Kz wz) 0 1; omega) h51 hro
      have hM3 : (kv_bri (kv_all Kz wz) wz) 0 0 = (kv_all Kz wz) 0 0 := kv_bri_ne (by decide)
      have hW3 : (kv_bri (kv_all Kz wz) wz) 0 1 = (kv_all Kz wz) 0 1 := kv_bri_ne (by decide)
      refine ce_lload dL_follows_284 rfl ?_
      refine ce_lcmp (z := lg_cmp (lN (kv_sum (kv_all Kz wz) 8 wz)) (lN (kv_sum (kv_all Kz wz) 8 wz))) dL_follows_286 rfl ?_
      refine ce_if_neL (a := kv_sum (kv_all Kz wz) 8 wz) (b := kv_sum (kv_all Kz wz) 8 wz) (tgt := 351) dL_follows_287 (by decide) rfl (by omega) (by omega) (fun c_287 => ?_) (fun c_287 => ?_)
      · omega
      · refine ce_aload_n dL_follows_290 rfl ?_
        refine ce_iconst (v := nI (3)) dL_follows_291 (by decide) ?_
        have hqc292 := (q_about3 hcg1 iv39)
        refine kc_Wj (V := lN (ce_sum ((kv_bri (kv_all Kz wz) wz) 9) 36)) dL_follows_292 hL_about kRL_112 hqc292 rfl rfl (by decide) (Nat.le_of_ble_eq_true rfl) rfl (by show _ ≤ 60; omega) ?_
        refine ce_lload dL_follows_295 rfl ?_
        refine ce_lload dL_follows_297 rfl ?_
        refine ce_ladd (z := lN (ce_sum (Kz 9) 36 + (kv_sum (kv_all Kz wz) 8 wz))) dL_follows_299 (lN_add _ _) ?_
        refine ce_lcmp (z := lg_cmp (lN (ce_sum ((kv_bri (kv_all Kz wz) wz) 9) 36)) (lN (ce_sum (Kz 9) 36 + (kv_sum (kv_all Kz wz) 8 wz)))) dL_follows_300 rfl ?_
        refine ce_if_neL (a := ce_sum ((kv_bri (kv_all Kz wz) wz) 9) 36) (b := ce_sum (Kz 9) 36 + (kv_sum (kv_all Kz wz) 8 wz)) (tgt := 351) dL_follows_301 (by decide) rfl (by omega) (by omega) (fun c_301 => ?_) (fun c_301 => ?_)
        · omega
        · refine ce_aload_n dL_follows_304 rfl ?_
          refine ce_iload dL_follows_305 rfl ?_
          refine ce_iconst (v := nI (1)) dL_follows_307 (by decide) ?_
          have hqc308 := (q_member1 hcg1 iv39 (m := iz) (by show iz < (kv_bri (kv_all Kz wz) wz) 0 0; omega))
          refine kc_Wj (V := ((ko_bri (kv_all Kz wz) wz (ko_all Kz wz Oz)) iz).toInt64) dL_follows_308 hL_member kRL_117 hqc308 rfl rfl (by decide) (Nat.le_of_ble_eq_true rfl) rfl (by show _ ≤ 60; omega) ?_
          refine ce_lload dL_follows_311 rfl ?_
          refine ce_lload dL_follows_313 rfl ?_
          refine ce_lload dL_follows_315 rfl ?_
          refine ce_lmul (z := lN (Kz 2 wz * kv_all Kz wz 8 (iz * 6 + wz))) dL_follows_317 (lN_mul _ _) ?_
          refine ce_ladd (z := ((Oz iz).toInt64) + (lN (Kz 2 wz * kv_all Kz wz 8 (iz * 6 + wz)))) dL_follows_318 rfl ?_
          refine ce_lcmp (z := lg_cmp (((ko_bri (kv_all Kz wz) wz (ko_all Kz wz Oz)) iz).toInt64) (((Oz iz).toInt64) + (lN (Kz 2 wz * kv_all Kz wz 8 (iz * 6 + wz))))) dL_follows_319 rfl ?_
          refine ce_if_neC (tgt := 351) dL_follows_320 (by decide) rfl (fun c_320 => ?_) (fun c_320 => ?_)
          · exact absurd f4 c_320
          · refine ce_aload_n dL_follows_323 rfl ?_
            refine ce_iload dL_follows_324 rfl ?_
            refine ce_iload dL_follows_326 rfl ?_
            refine ce_iconst (v := nI (2)) dL_follows_328 (by decide) ?_
            have hqc329 := (q_has2 hcg1 iv39 (m := iz) (w := wz) (by show iz < (kv_bri (kv_all Kz wz) wz) 0 0; omega) (by show wz < (kv_bri (kv_all Kz wz) wz) 0 1; omega))
            refine kc_Wj (V := lN ((kv_bri (kv_all Kz wz) wz) 9 (iz * 6 + wz))) dL_follows_329 hL_has kRL_122 hqc329 rfl rfl (by decide) (Nat.le_of_ble_eq_true rfl) rfl (by show _ ≤ 60; omega) ?_
            refine ce_lload dL_follows_332 rfl ?_
            refine ce_lcmp (z := lg_cmp (lN ((kv_bri (kv_all Kz wz) wz) 9 (iz * 6 + wz))) (lN (kv_all Kz wz 8 (iz * 6 + wz)))) dL_follows_334 rfl ?_
            refine ce_if_neL (a := (kv_bri (kv_all Kz wz) wz) 9 (iz * 6 + wz)) (b := kv_all Kz wz 8 (iz * 6 + wz)) (tgt := 351) dL_follows_335 (by decide) rfl (by omega) (by omega) (fun c_335 => ?_) (fun c_335 => ?_)
            · omega
            · refine ce_aload_n dL_follows_338 rfl ?_
              refine kc_Wu dL_follows_339 hL_undo kRL_198 (Nat.le_trans (Nat.sub_le _ _) (iv39).n) (q_undo hcg1 iv39 ks_back.1) rfl rfl (by decide) (Nat.le_of_ble_eq_true rfl) rfl (by show _ ≤ 60; omega) (fun ucg2 hucg2 cs2 cg2 hcg2 => ?_)
              have iv40 := iv_undo iv39 ks_back.1
              refine ce_lconst (v := lN 0) dL_follows_342 (by decide) ?_
              refine ce_lcmp (z := lg_cmp (lN (ucg2)) (lN (0))) dL_follows_343 rfl ?_
              refine ce_if_ltL (a := ucg2) (b := 0) (tgt := 351) dL_follows_344 (by decide) rfl (by omega) (by omega) (fun c_344 => ?_) (fun c_344 => ?_)
              · omega
              · refine ce_iconst (v := nI (1)) dL_follows_347 (by decide) ?_
                refine ce_goto (tgt := 352) dL_follows_348 (by decide) ?_
                refine ce_istore dL_follows_352 (Nat.le_of_ble_eq_true rfl) rfl ?_
                refine ce_iload dL_follows_354 rfl ?_
                refine ce_if_eqN (tgt := 381) dL_follows_356 (by decide) rfl (by omega) (fun c_356 => ?_) (fun c_356 => ?_)
                · omega
                · refine ce_aload_n dL_follows_359 rfl ?_
                  refine kc_Wu dL_follows_360 hL_undo kRL_198 (Nat.le_trans (Nat.sub_le _ _) (iv40).n) (q_undo hcg2 iv40 ks_back2.1) rfl rfl (by decide) (Nat.le_of_ble_eq_true rfl) rfl (by show _ ≤ 60; omega) (fun ucg3 hucg3 cs3 cg3 hcg3 => ?_)
                  have iv41 := iv_undo iv40 ks_back2.1
                  obtain ⟨hz42, hw43, iv44⟩ := kw_back (K := Kz) (O := Oz) (s := sz) hcg3 iv41 ks_back2.2.1 ks_back2.2.2
                  refine ce_lconst (v := lN 0) dL_follows_363 (by decide) ?_
                  refine ce_lcmp (z := lg_cmp (lN (ucg3)) (lN (0))) dL_follows_364 rfl ?_
                  refine ce_if_ltL (a := ucg3) (b := 0) (tgt := 381) dL_follows_365 (by decide) rfl (by omega) (by omega) (fun c_365 => ?_) (fun c_365 => ?_)
                  · omega
                  · refine ce_aload_n dL_follows_368 rfl ?_
                    have hqc369 := (m_L_now hw43 iv44)
                    refine kc_Sj (V := nw Kz Oz) dL_follows_369 hL_now kRL_131 hqc369 rfl rfl (by decide) (Nat.le_of_ble_eq_true rfl) rfl (by show _ ≤ 60; omega) ?_
                    refine ce_lload_n dL_follows_372 rfl ?_
                    refine ce_lcmp (z := lg_cmp (nw Kz Oz) (nw Kz Oz)) dL_follows_373 rfl ?_
                    refine ce_if_neC (tgt := 381) dL_follows_374 (by decide) rfl (fun c_374 => ?_) (fun c_374 => ?_)
                    · exact absurd rfl c_374
                    · refine ce_iconst (v := nI (1)) dL_follows_377 (by decide) ?_
                      refine ce_goto (tgt := 382) dL_follows_378 (by decide) ?_
                      refine ce_istore dL_follows_382 (Nat.le_of_ble_eq_true rfl) rfl ?_
                      refine ce_drop (L' := [some (.ref (a)), some (.int (nI (xz))), some (.long (nw Kz Oz)), none, some (.int (nI (Kz 0 0))), some (.int (nI (Kz 0 1))), some (.long (lN (ce_sum (Kz 9) 36))), none, some (.int (nI (1))), some (.int (nI (iz))), some (.int (nI (wz))), some (.long (lN (Kz 2 wz))), none, some (.long (lN (kv_all Kz wz 8 (iz * 6 + wz)))), none, none, none, none, none, none, none, none, none]) (ce_le_s rfl (ce_le_s rfl (ce_le_s rfl (ce_le_n (ce_le_s rfl (ce_le_s rfl (ce_le_s rfl (ce_le_n (ce_le_s rfl (ce_le_s rfl (ce_le_s rfl (ce_le_s rfl (ce_le_n (ce_le_s rfl (ce_le_n (ce_le_n (ce_le_n (ce_le_n (ce_le_n (ce_le_n (ce_le_n (ce_le_n (ce_le_n ce_le_e))))))))))))))))))))))) ?_
                      exact fo_3c hx hi hwz h5 kk hw43 iv44 rfl rfl (by omega)
set_option maxHeartbeats 2000000 in
set_option maxRecDepth 20000 in
theorem fo_3 {a : Nat} {Kz : ce_V} {Oz : Nat → Int32} {sz : ((Nat → Bool) × (Nat → ce_V) × (Nat → Nat → Int32)) × (Nat × (Nat → Nat))} {σ0 : ce_S} {g0 : ce_D} {xz : Nat} (hx : xz < 2147483648) {Q : Option Value → ce_S → ce_D → Prop} {X : String → ce_S → ce_D → Prop} {iz wz : Nat} (hi : iz < Kz 0 0) (hwz : wz < Kz 0 1) (h5 : Kz 5 wz = 0) (kk : ∀ (kz : Nat) (S : ks_S) (σ : ce_S) (g : ce_D), kw a S σ0 g0 σ g → kl_iv S → S.1 = (Kz, Oz) → S.2.2 = sz → kz ≤ 46 → ce_WP (ce_rl 2 60) mL_follows (kz) (6 * (kz)) 467 [some (.ref (a)), some (.int (nI (xz))), some (.long (nw Kz Oz)), none, some (.int (nI (Kz 0 0))), some (.int (nI (Kz 0 1))), some (.long (lN (ce_sum (Kz 9) 36))), none, some (.int (nI (1))), some (.int (nI (iz))), some (.int (nI (wz))), some (.long (lN (Kz 2 wz))), none, none, none, none, none, none, none, none, none, none, none] [] σ g Q X) {kz : Nat} {S : ks_S} {σ : ce_S} {g : ce_D} (hw : kw a S σ0 g0 σ g) (iv : kl_iv S) (h1 : S.1 = (Kz, Oz)) (h2 : S.2.2 = sz) (hkz : kz ≤ 30) : ce_WP (ce_rl 2 60) mL_follows (kz) (6 * (kz)) 126 [some (.ref (a)), some (.int (nI (xz))), some (.long (nw Kz Oz)), none, some (.int (nI (Kz 0 0))), some (.int (nI (Kz 0 1))), some (.long (lN (ce_sum (Kz 9) 36))), none, some (.int (nI (1))), some (.int (nI (iz))), some (.int (nI (wz))), some (.long (lN (Kz 2 wz))), none, none, none, none, none, none, none, none, none, none, none] [] σ g Q X := by
  obtain ⟨hz, rfl⟩ : ∃ hz, S = SS Kz Oz hz sz := ⟨_, SS_of h1 h2⟩
  have hk : kv_cl Kz := iv.ok.1
  have hj : kj Kz Oz := iv.kj.1
  have b9 := hk.b
  have c36 := hk.b9
  have hw6 : wz < 6 := by omega
  have hbo := hk.bo wz hw6
  have hmin := kv_all_min hk hw6 h5
  have hd : kv_all Kz wz 8 (iz * 6 + wz) ≤ 60 := kv_all_8 hk hw6 iz
  have hpr := hk.pr wz
  have hpo := hk.po iz
  have hod := hk.od (iz * 6 + wz)
  have hhf := kv_half_le hpr hd
  have f1 := fm_pts (K := Kz) (w := wz) hi
  have f2 := fm_owe hk hj hw6 h5 hi
  have hk2 := cl_all hk hwz h5
  have h51 : kv_all Kz wz 5 wz = 1 := kv_all_5.trans (if_pos rfl)
  have f3 := fm_cel hk2 hw6 h51
  have f4 := fm_owe2 hk hj hwz h5 hi
  have f5 : kv_bri (kv_all Kz wz) wz 9 (iz * 6 + wz) = kv_all Kz wz 8 (iz * 6 + wz) := fm_has hw6 (by rw [kv_all_ne (by decide)]; exact hi)
  have f6 : ce_sum (kv_all Kz wz 9) 36 = ce_sum (Kz 9) 36 := congrArg (fun f => ce_sum f 36) (funext fun _ => kv_all_ne (by decide))
  have hbr := hk2.bro wz
  have f7 := kv_all_more (K := Kz) (i := iz) (w := wz) (n := 60) hod
  have f8 : kv_ord Kz iz wz 60 7 (iz * 6 + wz) = 60 := fm_ord7
  have h5o : kv_ord Kz iz wz 60 5 wz = 0 := by unfold kv_ord; rw [kv_up_ne (by decide)]; exact h5
  have hd2 : kv_all (kv_ord Kz iz wz 60) wz 8 (iz * 6 + wz) ≤ 60 := kv_all_8 (cl_ord hk hi hwz (by omega)) hw6 iz
  refine ce_aload_n dL_follows_126 rfl ?_
  refine ce_iload dL_follows_127 rfl ?_
  refine ce_iload dL_follows_129 rfl ?_
  have hqc131 := (q_wg hw iv (m := iz) (w := wz) (by show iz < Kz 0 0; omega) (by show wz < Kz 0 1; omega) h5)
  refine kc_Wk (V := lN (kv_all Kz wz 8 (iz * 6 + wz))) dL_follows_131 hL_wouldGet kRL_158 hqc131 rfl rfl (by decide) (Nat.le_of_ble_eq_true rfl) rfl (by show _ ≤ 60; omega) (fun cs1 cg1 hcg1 => ?_)
  refine ce_lstore dL_follows_134 (Nat.le_of_ble_eq_true rfl) rfl ?_
  refine ce_aload_n dL_follows_136 rfl ?_
  refine ce_iload dL_follows_137 rfl ?_
  refine ce_iconst (v := nI (1)) dL_follows_139 (by decide) ?_
  have hqc140 := (q_member1 hcg1 iv (m := iz) (by show iz < Kz 0 0; omega))
  refine kc_Wj (V := (Oz iz).toInt64) dL_follows_140 hL_member kRL_117 hqc140 rfl rfl (by decide) (Nat.le_of_ble_eq_true rfl) rfl (by show _ ≤ 60; omega) ?_
  refine ce_lstore dL_follows_143 (Nat.le_of_ble_eq_true rfl) rfl ?_
  refine ce_aload_n dL_follows_145 rfl ?_
  refine ce_iload dL_follows_146 rfl ?_
  refine ce_iconst (v := nI (0)) dL_follows_148 (by decide) ?_
  have hqc149 := (q_member0 hcg1 iv (m := iz) (by show iz < Kz 0 0; omega))
  refine kc_Wj (V := lN (Kz 1 iz)) dL_follows_149 hL_member kRL_117 hqc149 rfl rfl (by decide) (Nat.le_of_ble_eq_true rfl) rfl (by show _ ≤ 60; omega) ?_
  refine ce_lstore dL_follows_152 (Nat.le_of_ble_eq_true rfl) rfl ?_
  refine ce_aload_n dL_follows_154 rfl ?_
  refine ce_iload dL_follows_155 rfl ?_
  have hqc157 := (q_all hcg1 iv (w := wz) (by show wz < Kz 0 1; omega) h5)
  refine kc_Wk (V := lN (kv_sum (kv_all Kz wz) 8 wz)) dL_follows_157 hL_allocate kRL_150 hqc157 rfl rfl (by decide) (Nat.le_of_ble_eq_true rfl) rfl (by show _ ≤ 60; omega) (fun cs2 cg2 hcg2 => ?_)
  have iv45 := iv_all iv (w := wz) (by show wz < Kz 0 1; omega) h5
  have hM2 : (kv_all Kz wz) 0 0 = Kz 0 0 := kv_all_ne (by decide)
  have hW2 : (kv_all Kz wz) 0 1 = Kz 0 1 := kv_all_ne (by decide)
  refine ce_lstore dL_follows_160 (Nat.le_of_ble_eq_true rfl) rfl ?_
  refine ce_aload_n dL_follows_162 rfl ?_
  refine ce_iload dL_follows_163 rfl ?_
  refine ce_iload dL_follows_165 rfl ?_
  refine ce_iconst (v := nI (1)) dL_follows_167 (by decide) ?_
  have hqc168 := (q_has1 hcg2 iv45 (m := iz) (w := wz) (by show iz < (kv_all Kz wz) 0 0; omega) (by show wz < (kv_all Kz wz) 0 1; omega))
  refine kc_Wj (V := lN ((kv_all Kz wz) 8 (iz * 6 + wz))) dL_follows_168 hL_has kRL_122 hqc168 rfl rfl (by decide) (Nat.le_of_ble_eq_true rfl) rfl (by show _ ≤ 60; omega) ?_
  refine ce_lload dL_follows_171 rfl ?_
  refine ce_lcmp (z := lg_cmp (lN ((kv_all Kz wz) 8 (iz * 6 + wz))) (lN (kv_all Kz wz 8 (iz * 6 + wz)))) dL_follows_173 rfl ?_
  refine ce_if_neL (a := (kv_all Kz wz) 8 (iz * 6 + wz)) (b := kv_all Kz wz 8 (iz * 6 + wz)) (tgt := 258) dL_follows_174 (by decide) rfl (by omega) (by omega) (fun c_174 => ?_) (fun c_174 => ?_)
  · omega
  · refine ce_aload_n dL_follows_177 rfl ?_
    refine ce_iload dL_follows_178 rfl ?_
    refine ce_iconst (v := nI (1)) dL_follows_180 (by decide) ?_
    have hqc181 := (q_member1 hcg2 iv45 (m := iz) (by show iz < (kv_all Kz wz) 0 0; omega))
    refine kc_Wj (V := ((ko_all Kz wz Oz) iz).toInt64) dL_follows_181 hL_member kRL_117 hqc181 rfl rfl (by decide) (Nat.le_of_ble_eq_true rfl) rfl (by show _ ≤ 60; omega) ?_
    refine ce_lload dL_follows_184 rfl ?_
    refine ce_lload dL_follows_186 rfl ?_
    refine ce_lload dL_follows_188 rfl ?_
    refine ce_lmul (z := lN (Kz 2 wz * kv_all Kz wz 8 (iz * 6 + wz))) dL_follows_190 (lN_mul _ _) ?_
    refine ce_ladd (z := ((Oz iz).toInt64) + (lN (Kz 2 wz * kv_all Kz wz 8 (iz * 6 + wz)))) dL_follows_191 rfl ?_
    refine ce_lload dL_follows_192 rfl ?_
    refine ce_lload dL_follows_194 rfl ?_
    refine ce_lmul (z := lN (Kz 2 wz * kv_all Kz wz 8 (iz * 6 + wz))) dL_follows_196 (lN_mul _ _) ?_
    refine ce_ldc2 (v := lN 2) dL_follows_197 kRL_191 ?_
    refine ce_ldiv (z := lN (Kz 2 wz * kv_all Kz wz 8 (iz * 6 + wz) / 2)) dL_follows_200 (by decide) (pk_lDiv (by omega) (by decide) (by decide)) ?_
    refine ce_lsub (z := (((Oz iz).toInt64) + (lN (Kz 2 wz * kv_all Kz wz 8 (iz * 6 + wz)))) - (lN (Kz 2 wz * kv_all Kz wz 8 (iz * 6 + wz) / 2))) dL_follows_201 rfl ?_
    refine ce_lcmp (z := lg_cmp (((ko_all Kz wz Oz) iz).toInt64) ((((Oz iz).toInt64) + (lN (Kz 2 wz * kv_all Kz wz 8 (iz * 6 + wz)))) - (lN (Kz 2 wz * kv_all Kz wz 8 (iz * 6 + wz) / 2)))) dL_follows_202 rfl ?_
    refine ce_if_neC (tgt := 258) dL_follows_203 (by decide) rfl (fun c_203 => ?_) (fun c_203 => ?_)
    · exact absurd f2 c_203
    · refine ce_aload_n dL_follows_206 rfl ?_
      refine ce_iload dL_follows_207 rfl ?_
      refine ce_iconst (v := nI (0)) dL_follows_209 (by decide) ?_
      have hqc210 := (q_member0 hcg2 iv45 (m := iz) (by show iz < (kv_all Kz wz) 0 0; omega))
      refine kc_Wj (V := lN ((kv_all Kz wz) 1 iz)) dL_follows_210 hL_member kRL_117 hqc210 rfl rfl (by decide) (Nat.le_of_ble_eq_true rfl) rfl (by show _ ≤ 60; omega) ?_
      refine ce_lload dL_follows_213 rfl ?_
      refine ce_lload dL_follows_215 rfl ?_
      refine ce_ladd (z := lN (Kz 1 iz + (kv_all Kz wz 8 (iz * 6 + wz)))) dL_follows_217 (lN_add _ _) ?_
      refine ce_ldc2 (v := lN 999) dL_follows_218 kRL_196 ?_
      refine ce_lcmp (z := lg_cmp (lN (Kz 1 iz + (kv_all Kz wz 8 (iz * 6 + wz)))) (lN (999))) dL_follows_221 rfl ?_
      refine ce_if_leL (a := Kz 1 iz + (kv_all Kz wz 8 (iz * 6 + wz))) (b := 999) (tgt := 231) dL_follows_222 (by decide) rfl (by omega) (by omega) (fun c_222 => ?_) (fun c_222 => ?_)
      · refine ce_lload dL_follows_231 rfl ?_
        refine ce_lload dL_follows_233 rfl ?_
        refine ce_ladd (z := lN (Kz 1 iz + (kv_all Kz wz 8 (iz * 6 + wz)))) dL_follows_235 (lN_add _ _) ?_
        refine ce_lcmp (z := lg_cmp (lN ((kv_all Kz wz) 1 iz)) (lN (Kz 1 iz + (kv_all Kz wz 8 (iz * 6 + wz))))) dL_follows_236 rfl ?_
        refine ce_if_neL (a := (kv_all Kz wz) 1 iz) (b := Kz 1 iz + (kv_all Kz wz 8 (iz * 6 + wz))) (tgt := 258) dL_follows_237 (by decide) rfl (by omega) (by omega) (fun c_237 => ?_) (fun c_237 => ?_)
        · omega
        · refine ce_aload_n dL_follows_240 rfl ?_
          refine ce_iload dL_follows_241 rfl ?_
          refine ce_bipush (v := nI (7)) dL_follows_243 (by decide) ?_
          have hqc245 := (q_wine7 hcg2 iv45 (w := wz) (by show wz < (kv_all Kz wz) 0 1; omega))
          refine kc_Wj (V := lN (kv_sum (kv_all Kz wz) 8 wz)) dL_follows_245 hL_wine kRL_127 hqc245 rfl rfl (by decide) (Nat.le_of_ble_eq_true rfl) rfl (by show _ ≤ 60; omega) ?_
          refine ce_lload dL_follows_248 rfl ?_
          refine ce_lcmp (z := lg_cmp (lN (kv_sum (kv_all Kz wz) 8 wz)) (lN (kv_sum (kv_all Kz wz) 8 wz))) dL_follows_250 rfl ?_
          refine ce_if_neL (a := kv_sum (kv_all Kz wz) 8 wz) (b := kv_sum (kv_all Kz wz) 8 wz) (tgt := 258) dL_follows_251 (by decide) rfl (by omega) (by omega) (fun c_251 => ?_) (fun c_251 => ?_)
          · omega
          · refine ce_iconst (v := nI (1)) dL_follows_254 (by decide) ?_
            refine ce_goto (tgt := 259) dL_follows_255 (by decide) ?_
            refine ce_istore dL_follows_259 (Nat.le_of_ble_eq_true rfl) rfl ?_
            refine ce_drop (L' := [some (.ref (a)), some (.int (nI (xz))), some (.long (nw Kz Oz)), none, some (.int (nI (Kz 0 0))), some (.int (nI (Kz 0 1))), some (.long (lN (ce_sum (Kz 9) 36))), none, some (.int (nI (1))), some (.int (nI (iz))), some (.int (nI (wz))), some (.long (lN (Kz 2 wz))), none, some (.long (lN (kv_all Kz wz 8 (iz * 6 + wz)))), none, some (.long ((Oz iz).toInt64)), none, some (.long (lN (Kz 1 iz))), none, some (.long (lN (kv_sum (kv_all Kz wz) 8 wz))), none, none, none]) (ce_le_s rfl (ce_le_s rfl (ce_le_s rfl (ce_le_n (ce_le_s rfl (ce_le_s rfl (ce_le_s rfl (ce_le_n (ce_le_s rfl (ce_le_s rfl (ce_le_s rfl (ce_le_s rfl (ce_le_n (ce_le_s rfl (ce_le_n (ce_le_s rfl (ce_le_n (ce_le_s rfl (ce_le_n (ce_le_s rfl (ce_le_n (ce_le_n (ce_le_n ce_le_e))))))))))))))))))))))) ?_
            exact fo_3b hx hi hwz h5 kk iv hcg2 iv45 (by omega)
      · refine ce_ldc2 (v := lN 999) dL_follows_225 kRL_196 ?_
        refine ce_goto (tgt := 236) dL_follows_228 (by decide) ?_
        refine ce_lcmp (z := lg_cmp (lN ((kv_all Kz wz) 1 iz)) (lN (999))) dL_follows_236 rfl ?_
        refine ce_if_neL (a := (kv_all Kz wz) 1 iz) (b := 999) (tgt := 258) dL_follows_237 (by decide) rfl (by omega) (by omega) (fun c_237 => ?_) (fun c_237 => ?_)
        · omega
        · refine ce_aload_n dL_follows_240 rfl ?_
          refine ce_iload dL_follows_241 rfl ?_
          refine ce_bipush (v := nI (7)) dL_follows_243 (by decide) ?_
          have hqc245 := (q_wine7 hcg2 iv45 (w := wz) (by show wz < (kv_all Kz wz) 0 1; omega))
          refine kc_Wj (V := lN (kv_sum (kv_all Kz wz) 8 wz)) dL_follows_245 hL_wine kRL_127 hqc245 rfl rfl (by decide) (Nat.le_of_ble_eq_true rfl) rfl (by show _ ≤ 60; omega) ?_
          refine ce_lload dL_follows_248 rfl ?_
          refine ce_lcmp (z := lg_cmp (lN (kv_sum (kv_all Kz wz) 8 wz)) (lN (kv_sum (kv_all Kz wz) 8 wz))) dL_follows_250 rfl ?_
          refine ce_if_neL (a := kv_sum (kv_all Kz wz) 8 wz) (b := kv_sum (kv_all Kz wz) 8 wz) (tgt := 258) dL_follows_251 (by decide) rfl (by omega) (by omega) (fun c_251 => ?_) (fun c_251 => ?_)
          · omega
          · refine ce_iconst (v := nI (1)) dL_follows_254 (by decide) ?_
            refine ce_goto (tgt := 259) dL_follows_255 (by decide) ?_
            refine ce_istore dL_follows_259 (Nat.le_of_ble_eq_true rfl) rfl ?_
            refine ce_drop (L' := [some (.ref (a)), some (.int (nI (xz))), some (.long (nw Kz Oz)), none, some (.int (nI (Kz 0 0))), some (.int (nI (Kz 0 1))), some (.long (lN (ce_sum (Kz 9) 36))), none, some (.int (nI (1))), some (.int (nI (iz))), some (.int (nI (wz))), some (.long (lN (Kz 2 wz))), none, some (.long (lN (kv_all Kz wz 8 (iz * 6 + wz)))), none, some (.long ((Oz iz).toInt64)), none, some (.long (lN (Kz 1 iz))), none, some (.long (lN (kv_sum (kv_all Kz wz) 8 wz))), none, none, none]) (ce_le_s rfl (ce_le_s rfl (ce_le_s rfl (ce_le_n (ce_le_s rfl (ce_le_s rfl (ce_le_s rfl (ce_le_n (ce_le_s rfl (ce_le_s rfl (ce_le_s rfl (ce_le_s rfl (ce_le_n (ce_le_s rfl (ce_le_n (ce_le_s rfl (ce_le_n (ce_le_s rfl (ce_le_n (ce_le_s rfl (ce_le_n (ce_le_n (ce_le_n ce_le_e))))))))))))))))))))))) ?_
            exact fo_3b hx hi hwz h5 kk iv hcg2 iv45 (by omega)
