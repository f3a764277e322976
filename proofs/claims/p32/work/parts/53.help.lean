set_option maxHeartbeats 2000000 in
set_option maxRecDepth 20000 in
theorem m_X7_load_nx {σ : ce_S} {g : ce_D} (a : Nat) (b : Nat → Nat) (S : ks_S) (hX : ce_LX σ a b) (hr : ce_rX g a b S) (ok : ks_ok S) (p : Nat) (hp9 : p ≤ 1000) (hp : (kx_read (sT S) (sl S)).1 = some p) : ce_CT (ce_rx 3) mX7_load [.ref (a)] σ g (fun _ _ _ => False) (kx_XR 3 σ g a b S) := by
  refine ce_enter (by decide) rfl (Nat.le_of_ble_eq_true rfl) (L := [some (.ref (a)), none]) rfl ?_
  refine ce_aload_n dX7_load_0 rfl ?_
  refine ce_getR dX7_load_1 fRX7_19 hX.1 hX.2.1.2.1 ?_
  refine ce_cVr dX7_load_4 hX6_read kRX7_68 (m_X6_read a b hX (sT S) (sl S) hr.2.2.2.1 hr.2.2.2.2.1 hr.2.2.2.2.2.1 ok.2.2.2 hr.2.2.2.2.2.2) rfl rfl hX.2.2.2.2.2.1.1 rfl (by decide) (Nat.le_of_ble_eq_true rfl) (fun rcg1 cg1 hcg1 => ?_)
  obtain ⟨ecg1, ucg1, fcg1⟩ := hcg1
  rw [hp] at ecg1
  have ecg1 : rcg1 = nI p := ecg1
  subst ecg1
  have x9 := rX_read hr hX.2.2.2.1.2.2.2 fcg1
  refine ce_ldc dX7_load_7 kRX7_71 ?_
  refine ce_icmp_neI (p := ((p : Nat) : Int)) (q := (-99999)) (tgt := 16) dX7_load_9 (by decide) (nI_toInt (by omega)) (by decide) (fun c_9 => ?_) (fun c_9 => ?_)
  · refine ce_iconst (v := nI (3)) dX7_load_16 (by decide) ?_
    exact ce_callSX dX7_load_17 hX7_check kRX7_56 (m_X7_checkX 3 (by decide) (by decide)) rfl rfl (by decide) (by decide) (by decide) (by decide) (fun v σ1 g1 h => h.elim) (fun E σ1 g1 h => ce_xout rfl (by decide) (by decide) ⟨⟨h.1, h.2.2⟩, h.2.1 ▸ x9.1, h.2.1 ▸ x9.2⟩)
  · omega
set_option maxHeartbeats 2000000 in
set_option maxRecDepth 20000 in
theorem h_about_ok {σ0 σ : ce_S} {g0 g : ce_D} {a : Nat} {S S2 : ks_S} {V : Int32} (x0 : Int32) (hw : kw a S σ0 g0 σ g) (hC : ∀ b, ce_LX σ a b → ce_rX g a b S → ce_CT (ce_r 5) mX7_about [.ref a, .int x0] σ g (kl_q σ g a S2 V) ce_no) : ce_CT (ce_rl 0 1) mL_about [.ref a, .int x0] σ g (kq σ0 g0 a S2 V.toInt64) ce_no := by
  obtain ⟨b, hX, hr⟩ := hw.o
  refine ce_enterH (by decide) rfl (Nat.le_of_ble_eq_true rfl) (L := [some (.ref a), some (.int x0), none]) rfl ?_
  refine ce_aload_n dL_about_0 rfl ?_
  refine ce_iload_n dL_about_1 rfl ?_
  refine ce_callVX dL_about_2 hX7_about kRL_27 (hC b hX hr) rfl rfl hX.1 rfl (by decide) (Nat.le_of_ble_eq_true rfl) (by decide) (by decide) (fun v σ1 g1 h => ?_) (fun E σ1 g1 h => ?_)
  · obtain ⟨rfl, h⟩ := h
    refine ce_i2l (v := V.toInt64) dL_about_5 rfl ?_
    exact ce_lret dL_about_6 rfl (by decide) (by decide) ⟨rfl, hw.tr h⟩
  · exact h.elim
set_option maxHeartbeats 2000000 in
set_option maxRecDepth 20000 in
theorem h_about_p {σ0 σ : ce_S} {g0 g : ce_D} {a : Nat} {S : ks_S} {V : Int32} (x0 : Int32) (hw : kw a S σ0 g0 σ g) (hC : ∀ b, ce_LX σ a b → ce_rX g a b S → ce_CT (ce_r 5) mX7_about [.ref a, .int x0] σ g (ce_pv V σ g) ce_no) : ce_CT (ce_rl 0 0) mL_about [.ref a, .int x0] σ g (ce_jv V.toInt64 σ g) ce_no := by
  obtain ⟨b, hX, hr⟩ := hw.o
  refine ce_enterH (by decide) rfl (Nat.le_of_ble_eq_true rfl) (L := [some (.ref a), some (.int x0), none]) rfl ?_
  refine ce_aload_n dL_about_0 rfl ?_
  refine ce_iload_n dL_about_1 rfl ?_
  refine ce_callVX dL_about_2 hX7_about kRL_27 (hC b hX hr) rfl rfl hX.1 rfl (by decide) (Nat.le_of_ble_eq_true rfl) (by decide) (by decide) (fun v σ1 g1 h => ?_) (fun E σ1 g1 h => ?_)
  · obtain ⟨rfl, rfl, rfl⟩ := h
    refine ce_i2l (v := V.toInt64) dL_about_5 rfl ?_
    exact ce_lret dL_about_6 rfl (by decide) (by decide) ⟨rfl, rfl, rfl⟩
  · exact h.elim
set_option maxHeartbeats 2000000 in
set_option maxRecDepth 20000 in
theorem h_about_n2 {σ0 σ : ce_S} {g0 g : ce_D} {a : Nat} {S : ks_S} (x0 : Int32) (hw : kw a S σ0 g0 σ g) (hC : ∀ b, ce_LX σ a b → ce_rX g a b S → ce_CT (ce_rx 2) mX7_about [.ref a, .int x0] σ g (fun _ _ _ => False) (kx_XR 2 σ g a b S)) : ce_CT (ce_rl 0 1) mL_about [.ref a, .int x0] σ g (kq σ0 g0 a S (-9000000000000000002 : Int64)) ce_no := by
  obtain ⟨b, hX, hr⟩ := hw.o
  refine ce_enterH (by decide) rfl (Nat.le_of_ble_eq_true rfl) (L := [some (.ref a), some (.int x0), none]) rfl ?_
  refine ce_aload_n dL_about_0 rfl ?_
  refine ce_iload_n dL_about_1 rfl ?_
  refine ce_callVX dL_about_2 hX7_about kRL_27 (hC b hX hr) rfl rfl hX.1 rfl (by decide) (Nat.le_of_ble_eq_true rfl) (by decide) (by decide) (fun v σ1 g1 h => ?_) (fun E σ1 g1 h => ?_)
  · exact h.elim
  · obtain ⟨⟨eE, n, hn, rfl⟩, k1, k2⟩ := h
    have eE : E = "java/lang/IllegalArgumentException" := eE
    subst eE
    refine ce_xcatch (E := "java/lang/IllegalArgumentException") [] 0 6 [] rfl (by decide) (fun _ hz => by cases hz) ⟨by decide, by decide⟩ (by decide) kRL_15 wc_IllegalArgumentException (fun q => ?_)
    refine ce_astore_n dL_about_7 (Nat.le_of_ble_eq_true rfl) rfl ?_
    refine ce_ldc2 dL_about_8 kRL_17 ?_
    exact ce_lret dL_about_11 rfl (by decide) (by decide) ⟨rfl, hw.tr ⟨⟨⟨hn, rfl, rfl, rfl, fun _ _ => rfl⟩, k2⟩, b, hX, k1⟩⟩
set_option maxHeartbeats 2000000 in
set_option maxRecDepth 20000 in
theorem h_addBin_ok {σ0 σ : ce_S} {g0 g : ce_D} {a : Nat} {S S2 : ks_S} {V : Int32} (x0 : Int32) (hw : kw a S σ0 g0 σ g) (hC : ∀ b, ce_LX σ a b → ce_rX g a b S → ce_CT (ce_r 5) mX7_addBin [.ref a, .int x0] σ g (kl_q σ g a S2 V) ce_no) : ce_CT (ce_rl 0 1) mL_addBin [.ref a, .int x0] σ g (kq σ0 g0 a S2 V.toInt64) ce_no := by
  obtain ⟨b, hX, hr⟩ := hw.o
  refine ce_enterH (by decide) rfl (Nat.le_of_ble_eq_true rfl) (L := [some (.ref a), some (.int x0), none]) rfl ?_
  refine ce_aload_n dL_addBin_0 rfl ?_
  refine ce_iload_n dL_addBin_1 rfl ?_
  refine ce_callVX dL_addBin_2 hX7_addBin kRL_54 (hC b hX hr) rfl rfl hX.1 rfl (by decide) (Nat.le_of_ble_eq_true rfl) (by decide) (by decide) (fun v σ1 g1 h => ?_) (fun E σ1 g1 h => ?_)
  · obtain ⟨rfl, h⟩ := h
    refine ce_i2l (v := V.toInt64) dL_addBin_5 rfl ?_
    exact ce_lret dL_addBin_6 rfl (by decide) (by decide) ⟨rfl, hw.tr h⟩
  · exact h.elim
set_option maxHeartbeats 2000000 in
set_option maxRecDepth 20000 in
theorem h_addBin_n2 {σ0 σ : ce_S} {g0 g : ce_D} {a : Nat} {S : ks_S} (x0 : Int32) (hw : kw a S σ0 g0 σ g) (hC : ∀ b, ce_LX σ a b → ce_rX g a b S → ce_CT (ce_rx 2) mX7_addBin [.ref a, .int x0] σ g (fun _ _ _ => False) (kx_XR 2 σ g a b S)) : ce_CT (ce_rl 0 1) mL_addBin [.ref a, .int x0] σ g (kq σ0 g0 a S (-9000000000000000002 : Int64)) ce_no := by
  obtain ⟨b, hX, hr⟩ := hw.o
  refine ce_enterH (by decide) rfl (Nat.le_of_ble_eq_true rfl) (L := [some (.ref a), some (.int x0), none]) rfl ?_
  refine ce_aload_n dL_addBin_0 rfl ?_
  refine ce_iload_n dL_addBin_1 rfl ?_
  refine ce_callVX dL_addBin_2 hX7_addBin kRL_54 (hC b hX hr) rfl rfl hX.1 rfl (by decide) (Nat.le_of_ble_eq_true rfl) (by decide) (by decide) (fun v σ1 g1 h => ?_) (fun E σ1 g1 h => ?_)
  · exact h.elim
  · obtain ⟨⟨eE, n, hn, rfl⟩, k1, k2⟩ := h
    have eE : E = "java/lang/IllegalArgumentException" := eE
    subst eE
    refine ce_xcatch (E := "java/lang/IllegalArgumentException") [] 0 6 [(0, 6, 12, 19)] rfl (by decide) (fun _ hz => by cases hz) ⟨by decide, by decide⟩ (by decide) kRL_15 wc_IllegalArgumentException (fun q => ?_)
    refine ce_astore_n dL_addBin_7 (Nat.le_of_ble_eq_true rfl) rfl ?_
    refine ce_ldc2 dL_addBin_8 kRL_17 ?_
    exact ce_lret dL_addBin_11 rfl (by decide) (by decide) ⟨rfl, hw.tr ⟨⟨⟨hn, rfl, rfl, rfl, fun _ _ => rfl⟩, k2⟩, b, hX, k1⟩⟩
set_option maxHeartbeats 2000000 in
set_option maxRecDepth 20000 in
theorem h_addBin_n3 {σ0 σ : ce_S} {g0 g : ce_D} {a : Nat} {S : ks_S} (x0 : Int32) (hw : kw a S σ0 g0 σ g) (hC : ∀ b, ce_LX σ a b → ce_rX g a b S → ce_CT (ce_rx 2) mX7_addBin [.ref a, .int x0] σ g (fun _ _ _ => False) (kx_XR 3 σ g a b S)) : ce_CT (ce_rl 0 1) mL_addBin [.ref a, .int x0] σ g (kq σ0 g0 a S (-9000000000000000003 : Int64)) ce_no := by
  obtain ⟨b, hX, hr⟩ := hw.o
  refine ce_enterH (by decide) rfl (Nat.le_of_ble_eq_true rfl) (L := [some (.ref a), some (.int x0), none]) rfl ?_
  refine ce_aload_n dL_addBin_0 rfl ?_
  refine ce_iload_n dL_addBin_1 rfl ?_
  refine ce_callVX dL_addBin_2 hX7_addBin kRL_54 (hC b hX hr) rfl rfl hX.1 rfl (by decide) (Nat.le_of_ble_eq_true rfl) (by decide) (by decide) (fun v σ1 g1 h => ?_) (fun E σ1 g1 h => ?_)
  · exact h.elim
  · obtain ⟨⟨eE, n, hn, rfl⟩, k1, k2⟩ := h
    have eE : E = "java/lang/IllegalStateException" := eE
    subst eE
    refine ce_xcatch (E := "java/lang/IllegalStateException") [(0, 6, 7, 15)] 0 6 [] rfl (by decide) (fun z hz => by
        have hz : z = (0, 6, 7, 15) := by simpa using hz
        rcases hz with rfl
        · exact ⟨by decide, "java/lang/IllegalArgumentException", by decide, by decide, kRL_15⟩) ⟨by decide, by decide⟩ (by decide) kRL_19 wc_IllegalStateException (fun q => ?_)
    refine ce_astore_n dL_addBin_12 (Nat.le_of_ble_eq_true rfl) rfl ?_
    refine ce_ldc2 dL_addBin_13 kRL_21 ?_
    exact ce_lret dL_addBin_16 rfl (by decide) (by decide) ⟨rfl, hw.tr ⟨⟨⟨hn, rfl, rfl, rfl, fun _ _ => rfl⟩, k2⟩, b, hX, k1⟩⟩
set_option maxHeartbeats 2000000 in
set_option maxRecDepth 20000 in
theorem h_addMember_ok {σ0 σ : ce_S} {g0 g : ce_D} {a : Nat} {S S2 : ks_S} {V : Int32} (x0 : Int32) (hw : kw a S σ0 g0 σ g) (hC : ∀ b, ce_LX σ a b → ce_rX g a b S → ce_CT (ce_r 5) mX7_addMember [.ref a, .int x0] σ g (kl_q σ g a S2 V) ce_no) : ce_CT (ce_rl 0 1) mL_addMember [.ref a, .int x0] σ g (kq σ0 g0 a S2 V.toInt64) ce_no := by
  obtain ⟨b, hX, hr⟩ := hw.o
  refine ce_enterH (by decide) rfl (Nat.le_of_ble_eq_true rfl) (L := [some (.ref a), some (.int x0), none]) rfl ?_
  refine ce_aload_n dL_addMember_0 rfl ?_
  refine ce_iload_n dL_addMember_1 rfl ?_
  refine ce_callVX dL_addMember_2 hX7_addMember kRL_48 (hC b hX hr) rfl rfl hX.1 rfl (by decide) (Nat.le_of_ble_eq_true rfl) (by decide) (by decide) (fun v σ1 g1 h => ?_) (fun E σ1 g1 h => ?_)
  · obtain ⟨rfl, h⟩ := h
    refine ce_i2l (v := V.toInt64) dL_addMember_5 rfl ?_
    exact ce_lret dL_addMember_6 rfl (by decide) (by decide) ⟨rfl, hw.tr h⟩
  · exact h.elim
set_option maxHeartbeats 2000000 in
set_option maxRecDepth 20000 in
theorem h_addMember_n2 {σ0 σ : ce_S} {g0 g : ce_D} {a : Nat} {S : ks_S} (x0 : Int32) (hw : kw a S σ0 g0 σ g) (hC : ∀ b, ce_LX σ a b → ce_rX g a b S → ce_CT (ce_rx 2) mX7_addMember [.ref a, .int x0] σ g (fun _ _ _ => False) (kx_XR 2 σ g a b S)) : ce_CT (ce_rl 0 1) mL_addMember [.ref a, .int x0] σ g (kq σ0 g0 a S (-9000000000000000002 : Int64)) ce_no := by
  obtain ⟨b, hX, hr⟩ := hw.o
  refine ce_enterH (by decide) rfl (Nat.le_of_ble_eq_true rfl) (L := [some (.ref a), some (.int x0), none]) rfl ?_
  refine ce_aload_n dL_addMember_0 rfl ?_
  refine ce_iload_n dL_addMember_1 rfl ?_
  refine ce_callVX dL_addMember_2 hX7_addMember kRL_48 (hC b hX hr) rfl rfl hX.1 rfl (by decide) (Nat.le_of_ble_eq_true rfl) (by decide) (by decide) (fun v σ1 g1 h => ?_) (fun E σ1 g1 h => ?_)
  · exact h.elim
  · obtain ⟨⟨eE, n, hn, rfl⟩, k1, k2⟩ := h
    have eE : E = "java/lang/IllegalArgumentException" := eE
    subst eE
    refine ce_xcatch (E := "java/lang/IllegalArgumentException") [] 0 6 [(0, 6, 12, 19)] rfl (by decide) (fun _ hz => by cases hz) ⟨by decide, by decide⟩ (by decide) kRL_15 wc_IllegalArgumentException (fun q => ?_)
    refine ce_astore_n dL_addMember_7 (Nat.le_of_ble_eq_true rfl) rfl ?_
    refine ce_ldc2 dL_addMember_8 kRL_17 ?_
    exact ce_lret dL_addMember_11 rfl (by decide) (by decide) ⟨rfl, hw.tr ⟨⟨⟨hn, rfl, rfl, rfl, fun _ _ => rfl⟩, k2⟩, b, hX, k1⟩⟩
set_option maxHeartbeats 2000000 in
set_option maxRecDepth 20000 in
theorem h_addMember_n3 {σ0 σ : ce_S} {g0 g : ce_D} {a : Nat} {S : ks_S} (x0 : Int32) (hw : kw a S σ0 g0 σ g) (hC : ∀ b, ce_LX σ a b → ce_rX g a b S → ce_CT (ce_rx 2) mX7_addMember [.ref a, .int x0] σ g (fun _ _ _ => False) (kx_XR 3 σ g a b S)) : ce_CT (ce_rl 0 1) mL_addMember [.ref a, .int x0] σ g (kq σ0 g0 a S (-9000000000000000003 : Int64)) ce_no := by
  obtain ⟨b, hX, hr⟩ := hw.o
  refine ce_enterH (by decide) rfl (Nat.le_of_ble_eq_true rfl) (L := [some (.ref a), some (.int x0), none]) rfl ?_
  refine ce_aload_n dL_addMember_0 rfl ?_
  refine ce_iload_n dL_addMember_1 rfl ?_
  refine ce_callVX dL_addMember_2 hX7_addMember kRL_48 (hC b hX hr) rfl rfl hX.1 rfl (by decide) (Nat.le_of_ble_eq_true rfl) (by decide) (by decide) (fun v σ1 g1 h => ?_) (fun E σ1 g1 h => ?_)
  · exact h.elim
  · obtain ⟨⟨eE, n, hn, rfl⟩, k1, k2⟩ := h
    have eE : E = "java/lang/IllegalStateException" := eE
    subst eE
    refine ce_xcatch (E := "java/lang/IllegalStateException") [(0, 6, 7, 15)] 0 6 [] rfl (by decide) (fun z hz => by
        have hz : z = (0, 6, 7, 15) := by simpa using hz
        rcases hz with rfl
        · exact ⟨by decide, "java/lang/IllegalArgumentException", by decide, by decide, kRL_15⟩) ⟨by decide, by decide⟩ (by decide) kRL_19 wc_IllegalStateException (fun q => ?_)
    refine ce_astore_n dL_addMember_12 (Nat.le_of_ble_eq_true rfl) rfl ?_
    refine ce_ldc2 dL_addMember_13 kRL_21 ?_
    exact ce_lret dL_addMember_16 rfl (by decide) (by decide) ⟨rfl, hw.tr ⟨⟨⟨hn, rfl, rfl, rfl, fun _ _ => rfl⟩, k2⟩, b, hX, k1⟩⟩
set_option maxHeartbeats 2000000 in
set_option maxRecDepth 20000 in
theorem h_addWine_ok {σ0 σ : ce_S} {g0 g : ce_D} {a : Nat} {S S2 : ks_S} {V : Int32} (x0 : Int32) (x1 : Int32) (hw : kw a S σ0 g0 σ g) (hC : ∀ b, ce_LX σ a b → ce_rX g a b S → ce_CT (ce_r 5) mX7_addWine [.ref a, .int x0, .int x1] σ g (kl_q σ g a S2 V) ce_no) : ce_CT (ce_rl 0 1) mL_addWine [.ref a, .int x0, .int x1] σ g (kq σ0 g0 a S2 V.toInt64) ce_no := by
  obtain ⟨b, hX, hr⟩ := hw.o
  refine ce_enterH (by decide) rfl (Nat.le_of_ble_eq_true rfl) (L := [some (.ref a), some (.int x0), some (.int x1), none]) rfl ?_
  refine ce_aload_n dL_addWine_0 rfl ?_
  refine ce_iload_n dL_addWine_1 rfl ?_
  refine ce_iload_n dL_addWine_2 rfl ?_
  refine ce_callVX dL_addWine_3 hX7_addWine kRL_51 (hC b hX hr) rfl rfl hX.1 rfl (by decide) (Nat.le_of_ble_eq_true rfl) (by decide) (by decide) (fun v σ1 g1 h => ?_) (fun E σ1 g1 h => ?_)
  · obtain ⟨rfl, h⟩ := h
    refine ce_i2l (v := V.toInt64) dL_addWine_6 rfl ?_
    exact ce_lret dL_addWine_7 rfl (by decide) (by decide) ⟨rfl, hw.tr h⟩
  · exact h.elim
set_option maxHeartbeats 2000000 in
set_option maxRecDepth 20000 in
theorem h_addWine_n2 {σ0 σ : ce_S} {g0 g : ce_D} {a : Nat} {S : ks_S} (x0 : Int32) (x1 : Int32) (hw : kw a S σ0 g0 σ g) (hC : ∀ b, ce_LX σ a b → ce_rX g a b S → ce_CT (ce_rx 2) mX7_addWine [.ref a, .int x0, .int x1] σ g (fun _ _ _ => False) (kx_XR 2 σ g a b S)) : ce_CT (ce_rl 0 1) mL_addWine [.ref a, .int x0, .int x1] σ g (kq σ0 g0 a S (-9000000000000000002 : Int64)) ce_no := by
  obtain ⟨b, hX, hr⟩ := hw.o
  refine ce_enterH (by decide) rfl (Nat.le_of_ble_eq_true rfl) (L := [some (.ref a), some (.int x0), some (.int x1), none]) rfl ?_
  refine ce_aload_n dL_addWine_0 rfl ?_
  refine ce_iload_n dL_addWine_1 rfl ?_
  refine ce_iload_n dL_addWine_2 rfl ?_
  refine ce_callVX dL_addWine_3 hX7_addWine kRL_51 (hC b hX hr) rfl rfl hX.1 rfl (by decide) (Nat.le_of_ble_eq_true rfl) (by decide) (by decide) (fun v σ1 g1 h => ?_) (fun E σ1 g1 h => ?_)
  · exact h.elim
  · obtain ⟨⟨eE, n, hn, rfl⟩, k1, k2⟩ := h
    have eE : E = "java/lang/IllegalArgumentException" := eE
    subst eE
    refine ce_xcatch (E := "java/lang/IllegalArgumentException") [] 0 7 [(0, 7, 13, 19)] rfl (by decide) (fun _ hz => by cases hz) ⟨by decide, by decide⟩ (by decide) kRL_15 wc_IllegalArgumentException (fun q => ?_)
    refine ce_astore_n dL_addWine_8 (Nat.le_of_ble_eq_true rfl) rfl ?_
    refine ce_ldc2 dL_addWine_9 kRL_17 ?_
    exact ce_lret dL_addWine_12 rfl (by decide) (by decide) ⟨rfl, hw.tr ⟨⟨⟨hn, rfl, rfl, rfl, fun _ _ => rfl⟩, k2⟩, b, hX, k1⟩⟩
set_option maxHeartbeats 2000000 in
set_option maxRecDepth 20000 in
theorem h_addWine_n3 {σ0 σ : ce_S} {g0 g : ce_D} {a : Nat} {S : ks_S} (x0 : Int32) (x1 : Int32) (hw : kw a S σ0 g0 σ g) (hC : ∀ b, ce_LX σ a b → ce_rX g a b S → ce_CT (ce_rx 2) mX7_addWine [.ref a, .int x0, .int x1] σ g (fun _ _ _ => False) (kx_XR 3 σ g a b S)) : ce_CT (ce_rl 0 1) mL_addWine [.ref a, .int x0, .int x1] σ g (kq σ0 g0 a S (-9000000000000000003 : Int64)) ce_no := by
  obtain ⟨b, hX, hr⟩ := hw.o
  refine ce_enterH (by decide) rfl (Nat.le_of_ble_eq_true rfl) (L := [some (.ref a), some (.int x0), some (.int x1), none]) rfl ?_
  refine ce_aload_n dL_addWine_0 rfl ?_
  refine ce_iload_n dL_addWine_1 rfl ?_
  refine ce_iload_n dL_addWine_2 rfl ?_
  refine ce_callVX dL_addWine_3 hX7_addWine kRL_51 (hC b hX hr) rfl rfl hX.1 rfl (by decide) (Nat.le_of_ble_eq_true rfl) (by decide) (by decide) (fun v σ1 g1 h => ?_) (fun E σ1 g1 h => ?_)
  · exact h.elim
  · obtain ⟨⟨eE, n, hn, rfl⟩, k1, k2⟩ := h
    have eE : E = "java/lang/IllegalStateException" := eE
    subst eE
    refine ce_xcatch (E := "java/lang/IllegalStateException") [(0, 7, 8, 15)] 0 7 [] rfl (by decide) (fun z hz => by
        have hz : z = (0, 7, 8, 15) := by simpa using hz
        rcases hz with rfl
        · exact ⟨by decide, "java/lang/IllegalArgumentException", by decide, by decide, kRL_15⟩) ⟨by decide, by decide⟩ (by decide) kRL_19 wc_IllegalStateException (fun q => ?_)
    refine ce_astore_n dL_addWine_13 (Nat.le_of_ble_eq_true rfl) rfl ?_
    refine ce_ldc2 dL_addWine_14 kRL_21 ?_
    exact ce_lret dL_addWine_17 rfl (by decide) (by decide) ⟨rfl, hw.tr ⟨⟨⟨hn, rfl, rfl, rfl, fun _ _ => rfl⟩, k2⟩, b, hX, k1⟩⟩
set_option maxHeartbeats 2000000 in
set_option maxRecDepth 20000 in
theorem h_allocate_ok {σ0 σ : ce_S} {g0 g : ce_D} {a : Nat} {S S2 : ks_S} {V : Int32} (x0 : Int32) (hw : kw a S σ0 g0 σ g) (hC : ∀ b, ce_LX σ a b → ce_rX g a b S → ce_CT (ce_r 5) mX7_allocate [.ref a, .int x0] σ g (kl_q σ g a S2 V) ce_no) : ce_CT (ce_rl 0 1) mL_allocate [.ref a, .int x0] σ g (kq σ0 g0 a S2 V.toInt64) ce_no := by
  obtain ⟨b, hX, hr⟩ := hw.o
  refine ce_enterH (by decide) rfl (Nat.le_of_ble_eq_true rfl) (L := [some (.ref a), some (.int x0), none]) rfl ?_
  refine ce_aload_n dL_allocate_0 rfl ?_
  refine ce_iload_n dL_allocate_1 rfl ?_
  refine ce_callVX dL_allocate_2 hX7_allocate kRL_60 (hC b hX hr) rfl rfl hX.1 rfl (by decide) (Nat.le_of_ble_eq_true rfl) (by decide) (by decide) (fun v σ1 g1 h => ?_) (fun E σ1 g1 h => ?_)
  · obtain ⟨rfl, h⟩ := h
    refine ce_i2l (v := V.toInt64) dL_allocate_5 rfl ?_
    exact ce_lret dL_allocate_6 rfl (by decide) (by decide) ⟨rfl, hw.tr h⟩
  · exact h.elim
set_option maxHeartbeats 2000000 in
set_option maxRecDepth 20000 in
theorem h_allocate_n1 {σ0 σ : ce_S} {g0 g : ce_D} {a : Nat} {S : ks_S} (x0 : Int32) (hw : kw a S σ0 g0 σ g) (hC : ∀ b, ce_LX σ a b → ce_rX g a b S → ce_CT (ce_rx 2) mX7_allocate [.ref a, .int x0] σ g (fun _ _ _ => False) (kx_XR 1 σ g a b S)) : ce_CT (ce_rl 0 1) mL_allocate [.ref a, .int x0] σ g (kq σ0 g0 a S (-9000000000000000001 : Int64)) ce_no := by
  obtain ⟨b, hX, hr⟩ := hw.o
  refine ce_enterH (by decide) rfl (Nat.le_of_ble_eq_true rfl) (L := [some (.ref a), some (.int x0), none]) rfl ?_
  refine ce_aload_n dL_allocate_0 rfl ?_
  refine ce_iload_n dL_allocate_1 rfl ?_
  refine ce_callVX dL_allocate_2 hX7_allocate kRL_60 (hC b hX hr) rfl rfl hX.1 rfl (by decide) (Nat.le_of_ble_eq_true rfl) (by decide) (by decide) (fun v σ1 g1 h => ?_) (fun E σ1 g1 h => ?_)
  · exact h.elim
  · obtain ⟨⟨eE, n, hn, rfl⟩, k1, k2⟩ := h
    have eE : E = "java/lang/IndexOutOfBoundsException" := eE
    subst eE
    refine ce_xcatch (E := "java/lang/IndexOutOfBoundsException") [] 0 6 [(0, 6, 12, 19)] rfl (by decide) (fun _ hz => by cases hz) ⟨by decide, by decide⟩ (by decide) kRL_34 wc_IndexOutOfBoundsException (fun q => ?_)
    refine ce_astore_n dL_allocate_7 (Nat.le_of_ble_eq_true rfl) rfl ?_
    refine ce_ldc2 dL_allocate_8 kRL_36 ?_
    exact ce_lret dL_allocate_11 rfl (by decide) (by decide) ⟨rfl, hw.tr ⟨⟨⟨hn, rfl, rfl, rfl, fun _ _ => rfl⟩, k2⟩, b, hX, k1⟩⟩
set_option maxHeartbeats 2000000 in
set_option maxRecDepth 20000 in
theorem h_allocate_n3 {σ0 σ : ce_S} {g0 g : ce_D} {a : Nat} {S : ks_S} (x0 : Int32) (hw : kw a S σ0 g0 σ g) (hC : ∀ b, ce_LX σ a b → ce_rX g a b S → ce_CT (ce_rx 2) mX7_allocate [.ref a, .int x0] σ g (fun _ _ _ => False) (kx_XR 3 σ g a b S)) : ce_CT (ce_rl 0 1) mL_allocate [.ref a, .int x0] σ g (kq σ0 g0 a S (-9000000000000000003 : Int64)) ce_no := by
  obtain ⟨b, hX, hr⟩ := hw.o
  refine ce_enterH (by decide) rfl (Nat.le_of_ble_eq_true rfl) (L := [some (.ref a), some (.int x0), none]) rfl ?_
  refine ce_aload_n dL_allocate_0 rfl ?_
  refine ce_iload_n dL_allocate_1 rfl ?_
  refine ce_callVX dL_allocate_2 hX7_allocate kRL_60 (hC b hX hr) rfl rfl hX.1 rfl (by decide) (Nat.le_of_ble_eq_true rfl) (by decide) (by decide) (fun v σ1 g1 h => ?_) (fun E σ1 g1 h => ?_)
  · exact h.elim
  · obtain ⟨⟨eE, n, hn, rfl⟩, k1, k2⟩ := h
    have eE : E = "java/lang/IllegalStateException" := eE
    subst eE
    refine ce_xcatch (E := "java/lang/IllegalStateException") [(0, 6, 7, 34)] 0 6 [] rfl (by decide) (fun z hz => by
        have hz : z = (0, 6, 7, 34) := by simpa using hz
        rcases hz with rfl
        · exact ⟨by decide, "java/lang/IndexOutOfBoundsException", by decide, by decide, kRL_34⟩) ⟨by decide, by decide⟩ (by decide) kRL_19 wc_IllegalStateException (fun q => ?_)
    refine ce_astore_n dL_allocate_12 (Nat.le_of_ble_eq_true rfl) rfl ?_
    refine ce_ldc2 dL_allocate_13 kRL_21 ?_
    exact ce_lret dL_allocate_16 rfl (by decide) (by decide) ⟨rfl, hw.tr ⟨⟨⟨hn, rfl, rfl, rfl, fun _ _ => rfl⟩, k2⟩, b, hX, k1⟩⟩
set_option maxHeartbeats 2000000 in
set_option maxRecDepth 20000 in
theorem h_append_ok {σ0 σ : ce_S} {g0 g : ce_D} {a : Nat} {S S2 : ks_S} {V : Int32} (x0 : Int32) (hw : kw a S σ0 g0 σ g) (hC : ∀ b, ce_LX σ a b → ce_rX g a b S → ce_CT (ce_r 5) mX7_append [.ref a, .int x0] σ g (kl_q σ g a S2 V) ce_no) : ce_CT (ce_rl 0 1) mL_append [.ref a, .int x0] σ g (kq σ0 g0 a S2 V.toInt64) ce_no := by
  obtain ⟨b, hX, hr⟩ := hw.o
  refine ce_enterH (by decide) rfl (Nat.le_of_ble_eq_true rfl) (L := [some (.ref a), some (.int x0), none]) rfl ?_
  refine ce_aload_n dL_append_0 rfl ?_
  refine ce_iload_n dL_append_1 rfl ?_
  refine ce_callVX dL_append_2 hX7_append kRL_9 (hC b hX hr) rfl rfl hX.1 rfl (by decide) (Nat.le_of_ble_eq_true rfl) (by decide) (by decide) (fun v σ1 g1 h => ?_) (fun E σ1 g1 h => ?_)
  · obtain ⟨rfl, h⟩ := h
    refine ce_i2l (v := V.toInt64) dL_append_5 rfl ?_
    exact ce_lret dL_append_6 rfl (by decide) (by decide) ⟨rfl, hw.tr h⟩
  · exact h.elim
set_option maxHeartbeats 2000000 in
set_option maxRecDepth 20000 in
theorem h_append_n2 {σ0 σ : ce_S} {g0 g : ce_D} {a : Nat} {S : ks_S} (x0 : Int32) (hw : kw a S σ0 g0 σ g) (hC : ∀ b, ce_LX σ a b → ce_rX g a b S → ce_CT (ce_rx 2) mX7_append [.ref a, .int x0] σ g (fun _ _ _ => False) (kx_XR 2 σ g a b S)) : ce_CT (ce_rl 0 1) mL_append [.ref a, .int x0] σ g (kq σ0 g0 a S (-9000000000000000002 : Int64)) ce_no := by
  obtain ⟨b, hX, hr⟩ := hw.o
  refine ce_enterH (by decide) rfl (Nat.le_of_ble_eq_true rfl) (L := [some (.ref a), some (.int x0), none]) rfl ?_
  refine ce_aload_n dL_append_0 rfl ?_
  refine ce_iload_n dL_append_1 rfl ?_
  refine ce_callVX dL_append_2 hX7_append kRL_9 (hC b hX hr) rfl rfl hX.1 rfl (by decide) (Nat.le_of_ble_eq_true rfl) (by decide) (by decide) (fun v σ1 g1 h => ?_) (fun E σ1 g1 h => ?_)
  · exact h.elim
  · obtain ⟨⟨eE, n, hn, rfl⟩, k1, k2⟩ := h
    have eE : E = "java/lang/IllegalArgumentException" := eE
    subst eE
    refine ce_xcatch (E := "java/lang/IllegalArgumentException") [] 0 6 [(0, 6, 12, 19)] rfl (by decide) (fun _ hz => by cases hz) ⟨by decide, by decide⟩ (by decide) kRL_15 wc_IllegalArgumentException (fun q => ?_)
    refine ce_astore_n dL_append_7 (Nat.le_of_ble_eq_true rfl) rfl ?_
    refine ce_ldc2 dL_append_8 kRL_17 ?_
    exact ce_lret dL_append_11 rfl (by decide) (by decide) ⟨rfl, hw.tr ⟨⟨⟨hn, rfl, rfl, rfl, fun _ _ => rfl⟩, k2⟩, b, hX, k1⟩⟩
set_option maxHeartbeats 2000000 in
set_option maxRecDepth 20000 in
theorem h_append_n3 {σ0 σ : ce_S} {g0 g : ce_D} {a : Nat} {S : ks_S} (x0 : Int32) (hw : kw a S σ0 g0 σ g) (hC : ∀ b, ce_LX σ a b → ce_rX g a b S → ce_CT (ce_rx 2) mX7_append [.ref a, .int x0] σ g (fun _ _ _ => False) (kx_XR 3 σ g a b S)) : ce_CT (ce_rl 0 1) mL_append [.ref a, .int x0] σ g (kq σ0 g0 a S (-9000000000000000003 : Int64)) ce_no := by
  obtain ⟨b, hX, hr⟩ := hw.o
  refine ce_enterH (by decide) rfl (Nat.le_of_ble_eq_true rfl) (L := [some (.ref a), some (.int x0), none]) rfl ?_
  refine ce_aload_n dL_append_0 rfl ?_
  refine ce_iload_n dL_append_1 rfl ?_
  refine ce_callVX dL_append_2 hX7_append kRL_9 (hC b hX hr) rfl rfl hX.1 rfl (by decide) (Nat.le_of_ble_eq_true rfl) (by decide) (by decide) (fun v σ1 g1 h => ?_) (fun E σ1 g1 h => ?_)
  · exact h.elim
  · obtain ⟨⟨eE, n, hn, rfl⟩, k1, k2⟩ := h
    have eE : E = "java/lang/IllegalStateException" := eE
    subst eE
    refine ce_xcatch (E := "java/lang/IllegalStateException") [(0, 6, 7, 15)] 0 6 [] rfl (by decide) (fun z hz => by
        have hz : z = (0, 6, 7, 15) := by simpa using hz
        rcases hz with rfl
        · exact ⟨by decide, "java/lang/IllegalArgumentException", by decide, by decide, kRL_15⟩) ⟨by decide, by decide⟩ (by decide) kRL_19 wc_IllegalStateException (fun q => ?_)
    refine ce_astore_n dL_append_12 (Nat.le_of_ble_eq_true rfl) rfl ?_
    refine ce_ldc2 dL_append_13 kRL_21 ?_
    exact ce_lret dL_append_16 rfl (by decide) (by decide) ⟨rfl, hw.tr ⟨⟨⟨hn, rfl, rfl, rfl, fun _ _ => rfl⟩, k2⟩, b, hX, k1⟩⟩
set_option maxHeartbeats 2000000 in
set_option maxRecDepth 20000 in
theorem h_bin_ok {σ0 σ : ce_S} {g0 g : ce_D} {a : Nat} {S S2 : ks_S} {V : Int32} (x0 : Int32) (x1 : Int32) (hw : kw a S σ0 g0 σ g) (hC : ∀ b, ce_LX σ a b → ce_rX g a b S → ce_CT (ce_r 5) mX7_bin [.ref a, .int x0, .int x1] σ g (kl_q σ g a S2 V) ce_no) : ce_CT (ce_rl 0 1) mL_bin [.ref a, .int x0, .int x1] σ g (kq σ0 g0 a S2 V.toInt64) ce_no := by
  obtain ⟨b, hX, hr⟩ := hw.o
  refine ce_enterH (by decide) rfl (Nat.le_of_ble_eq_true rfl) (L := [some (.ref a), some (.int x0), some (.int x1), none]) rfl ?_
  refine ce_aload_n dL_bin_0 rfl ?_
  refine ce_iload_n dL_bin_1 rfl ?_
  refine ce_iload_n dL_bin_2 rfl ?_
  refine ce_callVX dL_bin_3 hX7_bin kRL_41 (hC b hX hr) rfl rfl hX.1 rfl (by decide) (Nat.le_of_ble_eq_true rfl) (by decide) (by decide) (fun v σ1 g1 h => ?_) (fun E σ1 g1 h => ?_)
  · obtain ⟨rfl, h⟩ := h
    refine ce_i2l (v := V.toInt64) dL_bin_6 rfl ?_
    exact ce_lret dL_bin_7 rfl (by decide) (by decide) ⟨rfl, hw.tr h⟩
  · exact h.elim
set_option maxHeartbeats 2000000 in
set_option maxRecDepth 20000 in
theorem h_bin_p {σ0 σ : ce_S} {g0 g : ce_D} {a : Nat} {S : ks_S} {V : Int32} (x0 : Int32) (x1 : Int32) (hw : kw a S σ0 g0 σ g) (hC : ∀ b, ce_LX σ a b → ce_rX g a b S → ce_CT (ce_r 5) mX7_bin [.ref a, .int x0, .int x1] σ g (ce_pv V σ g) ce_no) : ce_CT (ce_rl 0 0) mL_bin [.ref a, .int x0, .int x1] σ g (ce_jv V.toInt64 σ g) ce_no := by
  obtain ⟨b, hX, hr⟩ := hw.o
  refine ce_enterH (by decide) rfl (Nat.le_of_ble_eq_true rfl) (L := [some (.ref a), some (.int x0), some (.int x1), none]) rfl ?_
  refine ce_aload_n dL_bin_0 rfl ?_
  refine ce_iload_n dL_bin_1 rfl ?_
  refine ce_iload_n dL_bin_2 rfl ?_
  refine ce_callVX dL_bin_3 hX7_bin kRL_41 (hC b hX hr) rfl rfl hX.1 rfl (by decide) (Nat.le_of_ble_eq_true rfl) (by decide) (by decide) (fun v σ1 g1 h => ?_) (fun E σ1 g1 h => ?_)
  · obtain ⟨rfl, rfl, rfl⟩ := h
    refine ce_i2l (v := V.toInt64) dL_bin_6 rfl ?_
    exact ce_lret dL_bin_7 rfl (by decide) (by decide) ⟨rfl, rfl, rfl⟩
  · exact h.elim
set_option maxHeartbeats 2000000 in
set_option maxRecDepth 20000 in
theorem h_bin_n1 {σ0 σ : ce_S} {g0 g : ce_D} {a : Nat} {S : ks_S} (x0 : Int32) (x1 : Int32) (hw : kw a S σ0 g0 σ g) (hC : ∀ b, ce_LX σ a b → ce_rX g a b S → ce_CT (ce_rx 2) mX7_bin [.ref a, .int x0, .int x1] σ g (fun _ _ _ => False) (kx_XR 1 σ g a b S)) : ce_CT (ce_rl 0 1) mL_bin [.ref a, .int x0, .int x1] σ g (kq σ0 g0 a S (-9000000000000000001 : Int64)) ce_no := by
  obtain ⟨b, hX, hr⟩ := hw.o
  refine ce_enterH (by decide) rfl (Nat.le_of_ble_eq_true rfl) (L := [some (.ref a), some (.int x0), some (.int x1), none]) rfl ?_
  refine ce_aload_n dL_bin_0 rfl ?_
  refine ce_iload_n dL_bin_1 rfl ?_
  refine ce_iload_n dL_bin_2 rfl ?_
  refine ce_callVX dL_bin_3 hX7_bin kRL_41 (hC b hX hr) rfl rfl hX.1 rfl (by decide) (Nat.le_of_ble_eq_true rfl) (by decide) (by decide) (fun v σ1 g1 h => ?_) (fun E σ1 g1 h => ?_)
  · exact h.elim
  · obtain ⟨⟨eE, n, hn, rfl⟩, k1, k2⟩ := h
    have eE : E = "java/lang/IndexOutOfBoundsException" := eE
    subst eE
    refine ce_xcatch (E := "java/lang/IndexOutOfBoundsException") [] 0 7 [(0, 7, 13, 15)] rfl (by decide) (fun _ hz => by cases hz) ⟨by decide, by decide⟩ (by decide) kRL_34 wc_IndexOutOfBoundsException (fun q => ?_)
    refine ce_astore_n dL_bin_8 (Nat.le_of_ble_eq_true rfl) rfl ?_
    refine ce_ldc2 dL_bin_9 kRL_36 ?_
    exact ce_lret dL_bin_12 rfl (by decide) (by decide) ⟨rfl, hw.tr ⟨⟨⟨hn, rfl, rfl, rfl, fun _ _ => rfl⟩, k2⟩, b, hX, k1⟩⟩
set_option maxHeartbeats 2000000 in
set_option maxRecDepth 20000 in
theorem h_bin_n2 {σ0 σ : ce_S} {g0 g : ce_D} {a : Nat} {S : ks_S} (x0 : Int32) (x1 : Int32) (hw : kw a S σ0 g0 σ g) (hC : ∀ b, ce_LX σ a b → ce_rX g a b S → ce_CT (ce_rx 2) mX7_bin [.ref a, .int x0, .int x1] σ g (fun _ _ _ => False) (kx_XR 2 σ g a b S)) : ce_CT (ce_rl 0 1) mL_bin [.ref a, .int x0, .int x1] σ g (kq σ0 g0 a S (-9000000000000000002 : Int64)) ce_no := by
  obtain ⟨b, hX, hr⟩ := hw.o
  refine ce_enterH (by decide) rfl (Nat.le_of_ble_eq_true rfl) (L := [some (.ref a), some (.int x0), some (.int x1), none]) rfl ?_
  refine ce_aload_n dL_bin_0 rfl ?_
  refine ce_iload_n dL_bin_1 rfl ?_
  refine ce_iload_n dL_bin_2 rfl ?_
  refine ce_callVX dL_bin_3 hX7_bin kRL_41 (hC b hX hr) rfl rfl hX.1 rfl (by decide) (Nat.le_of_ble_eq_true rfl) (by decide) (by decide) (fun v σ1 g1 h => ?_) (fun E σ1 g1 h => ?_)
  · exact h.elim
  · obtain ⟨⟨eE, n, hn, rfl⟩, k1, k2⟩ := h
    have eE : E = "java/lang/IllegalArgumentException" := eE
    subst eE
    refine ce_xcatch (E := "java/lang/IllegalArgumentException") [(0, 7, 8, 34)] 0 7 [] rfl (by decide) (fun z hz => by
        have hz : z = (0, 7, 8, 34) := by simpa using hz
        rcases hz with rfl
        · exact ⟨by decide, "java/lang/IndexOutOfBoundsException", by decide, by decide, kRL_34⟩) ⟨by decide, by decide⟩ (by decide) kRL_15 wc_IllegalArgumentException (fun q => ?_)
    refine ce_astore_n dL_bin_13 (Nat.le_of_ble_eq_true rfl) rfl ?_
    refine ce_ldc2 dL_bin_14 kRL_17 ?_
    exact ce_lret dL_bin_17 rfl (by decide) (by decide) ⟨rfl, hw.tr ⟨⟨⟨hn, rfl, rfl, rfl, fun _ _ => rfl⟩, k2⟩, b, hX, k1⟩⟩
set_option maxHeartbeats 2000000 in
set_option maxRecDepth 20000 in
theorem h_cork_ok {σ0 σ : ce_S} {g0 g : ce_D} {a : Nat} {S S2 : ks_S} {V : Int32} (x0 : Int32) (x1 : Int32) (hw : kw a S σ0 g0 σ g) (hC : ∀ b, ce_LX σ a b → ce_rX g a b S → ce_CT (ce_r 5) mX7_cork [.ref a, .int x0, .int x1] σ g (kl_q σ g a S2 V) ce_no) : ce_CT (ce_rl 0 1) mL_cork [.ref a, .int x0, .int x1] σ g (kq σ0 g0 a S2 V.toInt64) ce_no := by
  obtain ⟨b, hX, hr⟩ := hw.o
  refine ce_enterH (by decide) rfl (Nat.le_of_ble_eq_true rfl) (L := [some (.ref a), some (.int x0), some (.int x1), none]) rfl ?_
  refine ce_aload_n dL_cork_0 rfl ?_
  refine ce_iload_n dL_cork_1 rfl ?_
  refine ce_iload_n dL_cork_2 rfl ?_
  refine ce_callVX dL_cork_3 hX7_cork kRL_73 (hC b hX hr) rfl rfl hX.1 rfl (by decide) (Nat.le_of_ble_eq_true rfl) (by decide) (by decide) (fun v σ1 g1 h => ?_) (fun E σ1 g1 h => ?_)
  · obtain ⟨rfl, h⟩ := h
    refine ce_i2l (v := V.toInt64) dL_cork_6 rfl ?_
    exact ce_lret dL_cork_7 rfl (by decide) (by decide) ⟨rfl, hw.tr h⟩
  · exact h.elim
set_option maxHeartbeats 2000000 in
set_option maxRecDepth 20000 in
theorem h_cork_n1 {σ0 σ : ce_S} {g0 g : ce_D} {a : Nat} {S : ks_S} (x0 : Int32) (x1 : Int32) (hw : kw a S σ0 g0 σ g) (hC : ∀ b, ce_LX σ a b → ce_rX g a b S → ce_CT (ce_rx 2) mX7_cork [.ref a, .int x0, .int x1] σ g (fun _ _ _ => False) (kx_XR 1 σ g a b S)) : ce_CT (ce_rl 0 1) mL_cork [.ref a, .int x0, .int x1] σ g (kq σ0 g0 a S (-9000000000000000001 : Int64)) ce_no := by
  obtain ⟨b, hX, hr⟩ := hw.o
  refine ce_enterH (by decide) rfl (Nat.le_of_ble_eq_true rfl) (L := [some (.ref a), some (.int x0), some (.int x1), none]) rfl ?_
  refine ce_aload_n dL_cork_0 rfl ?_
  refine ce_iload_n dL_cork_1 rfl ?_
  refine ce_iload_n dL_cork_2 rfl ?_
  refine ce_callVX dL_cork_3 hX7_cork kRL_73 (hC b hX hr) rfl rfl hX.1 rfl (by decide) (Nat.le_of_ble_eq_true rfl) (by decide) (by decide) (fun v σ1 g1 h => ?_) (fun E σ1 g1 h => ?_)
  · exact h.elim
  · obtain ⟨⟨eE, n, hn, rfl⟩, k1, k2⟩ := h
    have eE : E = "java/lang/IndexOutOfBoundsException" := eE
    subst eE
    refine ce_xcatch (E := "java/lang/IndexOutOfBoundsException") [] 0 7 [(0, 7, 13, 19)] rfl (by decide) (fun _ hz => by cases hz) ⟨by decide, by decide⟩ (by decide) kRL_34 wc_IndexOutOfBoundsException (fun q => ?_)
    refine ce_astore_n dL_cork_8 (Nat.le_of_ble_eq_true rfl) rfl ?_
    refine ce_ldc2 dL_cork_9 kRL_36 ?_
    exact ce_lret dL_cork_12 rfl (by decide) (by decide) ⟨rfl, hw.tr ⟨⟨⟨hn, rfl, rfl, rfl, fun _ _ => rfl⟩, k2⟩, b, hX, k1⟩⟩
set_option maxHeartbeats 2000000 in
set_option maxRecDepth 20000 in
theorem h_cork_n3 {σ0 σ : ce_S} {g0 g : ce_D} {a : Nat} {S : ks_S} (x0 : Int32) (x1 : Int32) (hw : kw a S σ0 g0 σ g) (hC : ∀ b, ce_LX σ a b → ce_rX g a b S → ce_CT (ce_rx 2) mX7_cork [.ref a, .int x0, .int x1] σ g (fun _ _ _ => False) (kx_XR 3 σ g a b S)) : ce_CT (ce_rl 0 1) mL_cork [.ref a, .int x0, .int x1] σ g (kq σ0 g0 a S (-9000000000000000003 : Int64)) ce_no := by
  obtain ⟨b, hX, hr⟩ := hw.o
  refine ce_enterH (by decide) rfl (Nat.le_of_ble_eq_true rfl) (L := [some (.ref a), some (.int x0), some (.int x1), none]) rfl ?_
  refine ce_aload_n dL_cork_0 rfl ?_
  refine ce_iload_n dL_cork_1 rfl ?_
  refine ce_iload_n dL_cork_2 rfl ?_
  refine ce_callVX dL_cork_3 hX7_cork kRL_73 (hC b hX hr) rfl rfl hX.1 rfl (by decide) (Nat.le_of_ble_eq_true rfl) (by decide) (by decide) (fun v σ1 g1 h => ?_) (fun E σ1 g1 h => ?_)
  · exact h.elim
  · obtain ⟨⟨eE, n, hn, rfl⟩, k1, k2⟩ := h
    have eE : E = "java/lang/IllegalStateException" := eE
    subst eE
    refine ce_xcatch (E := "java/lang/IllegalStateException") [(0, 7, 8, 34)] 0 7 [] rfl (by decide) (fun z hz => by
        have hz : z = (0, 7, 8, 34) := by simpa using hz
        rcases hz with rfl
        · exact ⟨by decide, "java/lang/IndexOutOfBoundsException", by decide, by decide, kRL_34⟩) ⟨by decide, by decide⟩ (by decide) kRL_19 wc_IllegalStateException (fun q => ?_)
    refine ce_astore_n dL_cork_13 (Nat.le_of_ble_eq_true rfl) rfl ?_
    refine ce_ldc2 dL_cork_14 kRL_21 ?_
    exact ce_lret dL_cork_17 rfl (by decide) (by decide) ⟨rfl, hw.tr ⟨⟨⟨hn, rfl, rfl, rfl, fun _ _ => rfl⟩, k2⟩, b, hX, k1⟩⟩
set_option maxHeartbeats 2000000 in
set_option maxRecDepth 20000 in
theorem h_deliver_ok {σ0 σ : ce_S} {g0 g : ce_D} {a : Nat} {S S2 : ks_S} {V : Int32} (x0 : Int32) (hw : kw a S σ0 g0 σ g) (hC : ∀ b, ce_LX σ a b → ce_rX g a b S → ce_CT (ce_r 5) mX7_deliver [.ref a, .int x0] σ g (kl_q σ g a S2 V) ce_no) : ce_CT (ce_rl 0 1) mL_deliver [.ref a, .int x0] σ g (kq σ0 g0 a S2 V.toInt64) ce_no := by
  obtain ⟨b, hX, hr⟩ := hw.o
  refine ce_enterH (by decide) rfl (Nat.le_of_ble_eq_true rfl) (L := [some (.ref a), some (.int x0), none]) rfl ?_
  refine ce_aload_n dL_deliver_0 rfl ?_
  refine ce_iload_n dL_deliver_1 rfl ?_
  refine ce_callVX dL_deliver_2 hX7_deliver kRL_63 (hC b hX hr) rfl rfl hX.1 rfl (by decide) (Nat.le_of_ble_eq_true rfl) (by decide) (by decide) (fun v σ1 g1 h => ?_) (fun E σ1 g1 h => ?_)
  · obtain ⟨rfl, h⟩ := h
    refine ce_i2l (v := V.toInt64) dL_deliver_5 rfl ?_
    exact ce_lret dL_deliver_6 rfl (by decide) (by decide) ⟨rfl, hw.tr h⟩
  · exact h.elim
set_option maxHeartbeats 2000000 in
set_option maxRecDepth 20000 in
theorem h_deliver_n1 {σ0 σ : ce_S} {g0 g : ce_D} {a : Nat} {S : ks_S} (x0 : Int32) (hw : kw a S σ0 g0 σ g) (hC : ∀ b, ce_LX σ a b → ce_rX g a b S → ce_CT (ce_rx 2) mX7_deliver [.ref a, .int x0] σ g (fun _ _ _ => False) (kx_XR 1 σ g a b S)) : ce_CT (ce_rl 0 1) mL_deliver [.ref a, .int x0] σ g (kq σ0 g0 a S (-9000000000000000001 : Int64)) ce_no := by
  obtain ⟨b, hX, hr⟩ := hw.o
  refine ce_enterH (by decide) rfl (Nat.le_of_ble_eq_true rfl) (L := [some (.ref a), some (.int x0), none]) rfl ?_
  refine ce_aload_n dL_deliver_0 rfl ?_
  refine ce_iload_n dL_deliver_1 rfl ?_
  refine ce_callVX dL_deliver_2 hX7_deliver kRL_63 (hC b hX hr) rfl rfl hX.1 rfl (by decide) (Nat.le_of_ble_eq_true rfl) (by decide) (by decide) (fun v σ1 g1 h => ?_) (fun E σ1 g1 h => ?_)
  · exact h.elim
  · obtain ⟨⟨eE, n, hn, rfl⟩, k1, k2⟩ := h
    have eE : E = "java/lang/IndexOutOfBoundsException" := eE
    subst eE
    refine ce_xcatch (E := "java/lang/IndexOutOfBoundsException") [] 0 6 [(0, 6, 12, 19)] rfl (by decide) (fun _ hz => by cases hz) ⟨by decide, by decide⟩ (by decide) kRL_34 wc_IndexOutOfBoundsException (fun q => ?_)
    refine ce_astore_n dL_deliver_7 (Nat.le_of_ble_eq_true rfl) rfl ?_
    refine ce_ldc2 dL_deliver_8 kRL_36 ?_
    exact ce_lret dL_deliver_11 rfl (by decide) (by decide) ⟨rfl, hw.tr ⟨⟨⟨hn, rfl, rfl, rfl, fun _ _ => rfl⟩, k2⟩, b, hX, k1⟩⟩
set_option maxHeartbeats 2000000 in
set_option maxRecDepth 20000 in
theorem h_deliver_n3 {σ0 σ : ce_S} {g0 g : ce_D} {a : Nat} {S : ks_S} (x0 : Int32) (hw : kw a S σ0 g0 σ g) (hC : ∀ b, ce_LX σ a b → ce_rX g a b S → ce_CT (ce_rx 2) mX7_deliver [.ref a, .int x0] σ g (fun _ _ _ => False) (kx_XR 3 σ g a b S)) : ce_CT (ce_rl 0 1) mL_deliver [.ref a, .int x0] σ g (kq σ0 g0 a S (-9000000000000000003 : Int64)) ce_no := by
  obtain ⟨b, hX, hr⟩ := hw.o
  refine ce_enterH (by decide) rfl (Nat.le_of_ble_eq_true rfl) (L := [some (.ref a), some (.int x0), none]) rfl ?_
  refine ce_aload_n dL_deliver_0 rfl ?_
  refine ce_iload_n dL_deliver_1 rfl ?_
  refine ce_callVX dL_deliver_2 hX7_deliver kRL_63 (hC b hX hr) rfl rfl hX.1 rfl (by decide) (Nat.le_of_ble_eq_true rfl) (by decide) (by decide) (fun v σ1 g1 h => ?_) (fun E σ1 g1 h => ?_)
  · exact h.elim
  · obtain ⟨⟨eE, n, hn, rfl⟩, k1, k2⟩ := h
    have eE : E = "java/lang/IllegalStateException" := eE
    subst eE
    refine ce_xcatch (E := "java/lang/IllegalStateException") [(0, 6, 7, 34)] 0 6 [] rfl (by decide) (fun z hz => by
        have hz : z = (0, 6, 7, 34) := by simpa using hz
        rcases hz with rfl
        · exact ⟨by decide, "java/lang/IndexOutOfBoundsException", by decide, by decide, kRL_34⟩) ⟨by decide, by decide⟩ (by decide) kRL_19 wc_IllegalStateException (fun q => ?_)
    refine ce_astore_n dL_deliver_12 (Nat.le_of_ble_eq_true rfl) rfl ?_
    refine ce_ldc2 dL_deliver_13 kRL_21 ?_
    exact ce_lret dL_deliver_16 rfl (by decide) (by decide) ⟨rfl, hw.tr ⟨⟨⟨hn, rfl, rfl, rfl, fun _ _ => rfl⟩, k2⟩, b, hX, k1⟩⟩
set_option maxHeartbeats 2000000 in
set_option maxRecDepth 20000 in
theorem h_drink_ok {σ0 σ : ce_S} {g0 g : ce_D} {a : Nat} {S S2 : ks_S} {V : Int32} (x0 : Int32) (x1 : Int32) (x2 : Int32) (hw : kw a S σ0 g0 σ g) (hC : ∀ b, ce_LX σ a b → ce_rX g a b S → ce_CT (ce_r 5) mX7_drink [.ref a, .int x0, .int x1, .int x2] σ g (kl_q σ g a S2 V) ce_no) : ce_CT (ce_rl 0 1) mL_drink [.ref a, .int x0, .int x1, .int x2] σ g (kq σ0 g0 a S2 V.toInt64) ce_no := by
  obtain ⟨b, hX, hr⟩ := hw.o
  refine ce_enterH (by decide) rfl (Nat.le_of_ble_eq_true rfl) (L := [some (.ref a), some (.int x0), some (.int x1), some (.int x2), none]) rfl ?_
  refine ce_aload_n dL_drink_0 rfl ?_
  refine ce_iload_n dL_drink_1 rfl ?_
  refine ce_iload_n dL_drink_2 rfl ?_
  refine ce_iload_n dL_drink_3 rfl ?_
  refine ce_callVX dL_drink_4 hX7_drink kRL_66 (hC b hX hr) rfl rfl hX.1 rfl (by decide) (Nat.le_of_ble_eq_true rfl) (by decide) (by decide) (fun v σ1 g1 h => ?_) (fun E σ1 g1 h => ?_)
  · obtain ⟨rfl, h⟩ := h
    refine ce_i2l (v := V.toInt64) dL_drink_7 rfl ?_
    exact ce_lret dL_drink_8 rfl (by decide) (by decide) ⟨rfl, hw.tr h⟩
  · exact h.elim
set_option maxHeartbeats 2000000 in
set_option maxRecDepth 20000 in
theorem h_drink_n1 {σ0 σ : ce_S} {g0 g : ce_D} {a : Nat} {S : ks_S} (x0 : Int32) (x1 : Int32) (x2 : Int32) (hw : kw a S σ0 g0 σ g) (hC : ∀ b, ce_LX σ a b → ce_rX g a b S → ce_CT (ce_rx 2) mX7_drink [.ref a, .int x0, .int x1, .int x2] σ g (fun _ _ _ => False) (kx_XR 1 σ g a b S)) : ce_CT (ce_rl 0 1) mL_drink [.ref a, .int x0, .int x1, .int x2] σ g (kq σ0 g0 a S (-9000000000000000001 : Int64)) ce_no := by
  obtain ⟨b, hX, hr⟩ := hw.o
  refine ce_enterH (by decide) rfl (Nat.le_of_ble_eq_true rfl) (L := [some (.ref a), some (.int x0), some (.int x1), some (.int x2), none]) rfl ?_
  refine ce_aload_n dL_drink_0 rfl ?_
  refine ce_iload_n dL_drink_1 rfl ?_
  refine ce_iload_n dL_drink_2 rfl ?_
  refine ce_iload_n dL_drink_3 rfl ?_
  refine ce_callVX dL_drink_4 hX7_drink kRL_66 (hC b hX hr) rfl rfl hX.1 rfl (by decide) (Nat.le_of_ble_eq_true rfl) (by decide) (by decide) (fun v σ1 g1 h => ?_) (fun E σ1 g1 h => ?_)
  · exact h.elim
  · obtain ⟨⟨eE, n, hn, rfl⟩, k1, k2⟩ := h
    have eE : E = "java/lang/IndexOutOfBoundsException" := eE
    subst eE
    refine ce_xcatch (E := "java/lang/IndexOutOfBoundsException") [] 0 8 [(0, 8, 15, 15), (0, 8, 21, 19)] rfl (by decide) (fun _ hz => by cases hz) ⟨by decide, by decide⟩ (by decide) kRL_34 wc_IndexOutOfBoundsException (fun q => ?_)
    refine ce_astore dL_drink_9 (Nat.le_of_ble_eq_true rfl) rfl ?_
    refine ce_ldc2 dL_drink_11 kRL_36 ?_
    exact ce_lret dL_drink_14 rfl (by decide) (by decide) ⟨rfl, hw.tr ⟨⟨⟨hn, rfl, rfl, rfl, fun _ _ => rfl⟩, k2⟩, b, hX, k1⟩⟩
set_option maxHeartbeats 2000000 in
set_option maxRecDepth 20000 in
theorem h_drink_n2 {σ0 σ : ce_S} {g0 g : ce_D} {a : Nat} {S : ks_S} (x0 : Int32) (x1 : Int32) (x2 : Int32) (hw : kw a S σ0 g0 σ g) (hC : ∀ b, ce_LX σ a b → ce_rX g a b S → ce_CT (ce_rx 2) mX7_drink [.ref a, .int x0, .int x1, .int x2] σ g (fun _ _ _ => False) (kx_XR 2 σ g a b S)) : ce_CT (ce_rl 0 1) mL_drink [.ref a, .int x0, .int x1, .int x2] σ g (kq σ0 g0 a S (-9000000000000000002 : Int64)) ce_no := by
  obtain ⟨b, hX, hr⟩ := hw.o
  refine ce_enterH (by decide) rfl (Nat.le_of_ble_eq_true rfl) (L := [some (.ref a), some (.int x0), some (.int x1), some (.int x2), none]) rfl ?_
  refine ce_aload_n dL_drink_0 rfl ?_
  refine ce_iload_n dL_drink_1 rfl ?_
  refine ce_iload_n dL_drink_2 rfl ?_
  refine ce_iload_n dL_drink_3 rfl ?_
  refine ce_callVX dL_drink_4 hX7_drink kRL_66 (hC b hX hr) rfl rfl hX.1 rfl (by decide) (Nat.le_of_ble_eq_true rfl) (by decide) (by decide) (fun v σ1 g1 h => ?_) (fun E σ1 g1 h => ?_)
  · exact h.elim
  · obtain ⟨⟨eE, n, hn, rfl⟩, k1, k2⟩ := h
    have eE : E = "java/lang/IllegalArgumentException" := eE
    subst eE
    refine ce_xcatch (E := "java/lang/IllegalArgumentException") [(0, 8, 9, 34)] 0 8 [(0, 8, 21, 19)] rfl (by decide) (fun z hz => by
        have hz : z = (0, 8, 9, 34) := by simpa using hz
        rcases hz with rfl
        · exact ⟨by decide, "java/lang/IndexOutOfBoundsException", by decide, by decide, kRL_34⟩) ⟨by decide, by decide⟩ (by decide) kRL_15 wc_IllegalArgumentException (fun q => ?_)
    refine ce_astore dL_drink_15 (Nat.le_of_ble_eq_true rfl) rfl ?_
    refine ce_ldc2 dL_drink_17 kRL_17 ?_
    exact ce_lret dL_drink_20 rfl (by decide) (by decide) ⟨rfl, hw.tr ⟨⟨⟨hn, rfl, rfl, rfl, fun _ _ => rfl⟩, k2⟩, b, hX, k1⟩⟩
set_option maxHeartbeats 2000000 in
set_option maxRecDepth 20000 in
theorem h_drink_n3 {σ0 σ : ce_S} {g0 g : ce_D} {a : Nat} {S : ks_S} (x0 : Int32) (x1 : Int32) (x2 : Int32) (hw : kw a S σ0 g0 σ g) (hC : ∀ b, ce_LX σ a b → ce_rX g a b S → ce_CT (ce_rx 2) mX7_drink [.ref a, .int x0, .int x1, .int x2] σ g (fun _ _ _ => False) (kx_XR 3 σ g a b S)) : ce_CT (ce_rl 0 1) mL_drink [.ref a, .int x0, .int x1, .int x2] σ g (kq σ0 g0 a S (-9000000000000000003 : Int64)) ce_no := by
  obtain ⟨b, hX, hr⟩ := hw.o
  refine ce_enterH (by decide) rfl (Nat.le_of_ble_eq_true rfl) (L := [some (.ref a), some (.int x0), some (.int x1), some (.int x2), none]) rfl ?_
  refine ce_aload_n dL_drink_0 rfl ?_
  refine ce_iload_n dL_drink_1 rfl ?_
  refine ce_iload_n dL_drink_2 rfl ?_
  refine ce_iload_n dL_drink_3 rfl ?_
  refine ce_callVX dL_drink_4 hX7_drink kRL_66 (hC b hX hr) rfl rfl hX.1 rfl (by decide) (Nat.le_of_ble_eq_true rfl) (by decide) (by decide) (fun v σ1 g1 h => ?_) (fun E σ1 g1 h => ?_)
  · exact h.elim
  · obtain ⟨⟨eE, n, hn, rfl⟩, k1, k2⟩ := h
    have eE : E = "java/lang/IllegalStateException" := eE
    subst eE
    refine ce_xcatch (E := "java/lang/IllegalStateException") [(0, 8, 9, 34), (0, 8, 15, 15)] 0 8 [] rfl (by decide) (fun z hz => by
        have hz : z = (0, 8, 9, 34) ∨ z = (0, 8, 15, 15) := by simpa using hz
        rcases hz with rfl | rfl
        · exact ⟨by decide, "java/lang/IndexOutOfBoundsException", by decide, by decide, kRL_34⟩
        · exact ⟨by decide, "java/lang/IllegalArgumentException", by decide, by decide, kRL_15⟩) ⟨by decide, by decide⟩ (by decide) kRL_19 wc_IllegalStateException (fun q => ?_)
    refine ce_astore dL_drink_21 (Nat.le_of_ble_eq_true rfl) rfl ?_
    refine ce_ldc2 dL_drink_23 kRL_21 ?_
    exact ce_lret dL_drink_26 rfl (by decide) (by decide) ⟨rfl, hw.tr ⟨⟨⟨hn, rfl, rfl, rfl, fun _ _ => rfl⟩, k2⟩, b, hX, k1⟩⟩
set_option maxHeartbeats 2000000 in
set_option maxRecDepth 20000 in
theorem h_give_ok {σ0 σ : ce_S} {g0 g : ce_D} {a : Nat} {S S2 : ks_S} {V : Int32} (x0 : Int32) (x1 : Int32) (x2 : Int32) (x3 : Int32) (hw : kw a S σ0 g0 σ g) (hC : ∀ b, ce_LX σ a b → ce_rX g a b S → ce_CT (ce_r 5) mX7_give [.ref a, .int x0, .int x1, .int x2, .int x3] σ g (kl_q σ g a S2 V) ce_no) : ce_CT (ce_rl 0 1) mL_give [.ref a, .int x0, .int x1, .int x2, .int x3] σ g (kq σ0 g0 a S2 V.toInt64) ce_no := by
  obtain ⟨b, hX, hr⟩ := hw.o
  refine ce_enterH (by decide) rfl (Nat.le_of_ble_eq_true rfl) (L := [some (.ref a), some (.int x0), some (.int x1), some (.int x2), some (.int x3), none]) rfl ?_
  refine ce_aload_n dL_give_0 rfl ?_
  refine ce_iload_n dL_give_1 rfl ?_
  refine ce_iload_n dL_give_2 rfl ?_
  refine ce_iload_n dL_give_3 rfl ?_
  refine ce_iload dL_give_4 rfl ?_
  refine ce_callVX dL_give_6 hX7_give kRL_69 (hC b hX hr) rfl rfl hX.1 rfl (by decide) (Nat.le_of_ble_eq_true rfl) (by decide) (by decide) (fun v σ1 g1 h => ?_) (fun E σ1 g1 h => ?_)
  · obtain ⟨rfl, h⟩ := h
    refine ce_i2l (v := V.toInt64) dL_give_9 rfl ?_
    exact ce_lret dL_give_10 rfl (by decide) (by decide) ⟨rfl, hw.tr h⟩
  · exact h.elim
set_option maxHeartbeats 2000000 in
set_option maxRecDepth 20000 in
theorem h_give_n1 {σ0 σ : ce_S} {g0 g : ce_D} {a : Nat} {S : ks_S} (x0 : Int32) (x1 : Int32) (x2 : Int32) (x3 : Int32) (hw : kw a S σ0 g0 σ g) (hC : ∀ b, ce_LX σ a b → ce_rX g a b S → ce_CT (ce_rx 2) mX7_give [.ref a, .int x0, .int x1, .int x2, .int x3] σ g (fun _ _ _ => False) (kx_XR 1 σ g a b S)) : ce_CT (ce_rl 0 1) mL_give [.ref a, .int x0, .int x1, .int x2, .int x3] σ g (kq σ0 g0 a S (-9000000000000000001 : Int64)) ce_no := by
  obtain ⟨b, hX, hr⟩ := hw.o
  refine ce_enterH (by decide) rfl (Nat.le_of_ble_eq_true rfl) (L := [some (.ref a), some (.int x0), some (.int x1), some (.int x2), some (.int x3), none]) rfl ?_
  refine ce_aload_n dL_give_0 rfl ?_
  refine ce_iload_n dL_give_1 rfl ?_
  refine ce_iload_n dL_give_2 rfl ?_
  refine ce_iload_n dL_give_3 rfl ?_
  refine ce_iload dL_give_4 rfl ?_
  refine ce_callVX dL_give_6 hX7_give kRL_69 (hC b hX hr) rfl rfl hX.1 rfl (by decide) (Nat.le_of_ble_eq_true rfl) (by decide) (by decide) (fun v σ1 g1 h => ?_) (fun E σ1 g1 h => ?_)
  · exact h.elim
  · obtain ⟨⟨eE, n, hn, rfl⟩, k1, k2⟩ := h
    have eE : E = "java/lang/IndexOutOfBoundsException" := eE
    subst eE
    refine ce_xcatch (E := "java/lang/IndexOutOfBoundsException") [] 0 10 [(0, 10, 17, 15), (0, 10, 23, 19)] rfl (by decide) (fun _ hz => by cases hz) ⟨by decide, by decide⟩ (by decide) kRL_34 wc_IndexOutOfBoundsException (fun q => ?_)
    refine ce_astore dL_give_11 (Nat.le_of_ble_eq_true rfl) rfl ?_
    refine ce_ldc2 dL_give_13 kRL_36 ?_
    exact ce_lret dL_give_16 rfl (by decide) (by decide) ⟨rfl, hw.tr ⟨⟨⟨hn, rfl, rfl, rfl, fun _ _ => rfl⟩, k2⟩, b, hX, k1⟩⟩
set_option maxHeartbeats 2000000 in
set_option maxRecDepth 20000 in
theorem h_give_n2 {σ0 σ : ce_S} {g0 g : ce_D} {a : Nat} {S : ks_S} (x0 : Int32) (x1 : Int32) (x2 : Int32) (x3 : Int32) (hw : kw a S σ0 g0 σ g) (hC : ∀ b, ce_LX σ a b → ce_rX g a b S → ce_CT (ce_rx 2) mX7_give [.ref a, .int x0, .int x1, .int x2, .int x3] σ g (fun _ _ _ => False) (kx_XR 2 σ g a b S)) : ce_CT (ce_rl 0 1) mL_give [.ref a, .int x0, .int x1, .int x2, .int x3] σ g (kq σ0 g0 a S (-9000000000000000002 : Int64)) ce_no := by
  obtain ⟨b, hX, hr⟩ := hw.o
  refine ce_enterH (by decide) rfl (Nat.le_of_ble_eq_true rfl) (L := [some (.ref a), some (.int x0), some (.int x1), some (.int x2), some (.int x3), none]) rfl ?_
  refine ce_aload_n dL_give_0 rfl ?_
  refine ce_iload_n dL_give_1 rfl ?_
  refine ce_iload_n dL_give_2 rfl ?_
  refine ce_iload_n dL_give_3 rfl ?_
  refine ce_iload dL_give_4 rfl ?_
  refine ce_callVX dL_give_6 hX7_give kRL_69 (hC b hX hr) rfl rfl hX.1 rfl (by decide) (Nat.le_of_ble_eq_true rfl) (by decide) (by decide) (fun v σ1 g1 h => ?_) (fun E σ1 g1 h => ?_)
  · exact h.elim
  · obtain ⟨⟨eE, n, hn, rfl⟩, k1, k2⟩ := h
    have eE : E = "java/lang/IllegalArgumentException" := eE
    subst eE
    refine ce_xcatch (E := "java/lang/IllegalArgumentException") [(0, 10, 11, 34)] 0 10 [(0, 10, 23, 19)] rfl (by decide) (fun z hz => by
        have hz : z = (0, 10, 11, 34) := by simpa using hz
        rcases hz with rfl
        · exact ⟨by decide, "java/lang/IndexOutOfBoundsException", by decide, by decide, kRL_34⟩) ⟨by decide, by decide⟩ (by decide) kRL_15 wc_IllegalArgumentException (fun q => ?_)
    refine ce_astore dL_give_17 (Nat.le_of_ble_eq_true rfl) rfl ?_
    refine ce_ldc2 dL_give_19 kRL_17 ?_
    exact ce_lret dL_give_22 rfl (by decide) (by decide) ⟨rfl, hw.tr ⟨⟨⟨hn, rfl, rfl, rfl, fun _ _ => rfl⟩, k2⟩, b, hX, k1⟩⟩
set_option maxHeartbeats 2000000 in
set_option maxRecDepth 20000 in
theorem h_give_n3 {σ0 σ : ce_S} {g0 g : ce_D} {a : Nat} {S : ks_S} (x0 : Int32) (x1 : Int32) (x2 : Int32) (x3 : Int32) (hw : kw a S σ0 g0 σ g) (hC : ∀ b, ce_LX σ a b → ce_rX g a b S → ce_CT (ce_rx 2) mX7_give [.ref a, .int x0, .int x1, .int x2, .int x3] σ g (fun _ _ _ => False) (kx_XR 3 σ g a b S)) : ce_CT (ce_rl 0 1) mL_give [.ref a, .int x0, .int x1, .int x2, .int x3] σ g (kq σ0 g0 a S (-9000000000000000003 : Int64)) ce_no := by
  obtain ⟨b, hX, hr⟩ := hw.o
  refine ce_enterH (by decide) rfl (Nat.le_of_ble_eq_true rfl) (L := [some (.ref a), some (.int x0), some (.int x1), some (.int x2), some (.int x3), none]) rfl ?_
  refine ce_aload_n dL_give_0 rfl ?_
  refine ce_iload_n dL_give_1 rfl ?_
  refine ce_iload_n dL_give_2 rfl ?_
  refine ce_iload_n dL_give_3 rfl ?_
  refine ce_iload dL_give_4 rfl ?_
  refine ce_callVX dL_give_6 hX7_give kRL_69 (hC b hX hr) rfl rfl hX.1 rfl (by decide) (Nat.le_of_ble_eq_true rfl) (by decide) (by decide) (fun v σ1 g1 h => ?_) (fun E σ1 g1 h => ?_)
  · exact h.elim
  · obtain ⟨⟨eE, n, hn, rfl⟩, k1, k2⟩ := h
    have eE : E = "java/lang/IllegalStateException" := eE
    subst eE
    refine ce_xcatch (E := "java/lang/IllegalStateException") [(0, 10, 11, 34), (0, 10, 17, 15)] 0 10 [] rfl (by decide) (fun z hz => by
        have hz : z = (0, 10, 11, 34) ∨ z = (0, 10, 17, 15) := by simpa using hz
        rcases hz with rfl | rfl
        · exact ⟨by decide, "java/lang/IndexOutOfBoundsException", by decide, by decide, kRL_34⟩
        · exact ⟨by decide, "java/lang/IllegalArgumentException", by decide, by decide, kRL_15⟩) ⟨by decide, by decide⟩ (by decide) kRL_19 wc_IllegalStateException (fun q => ?_)
    refine ce_astore dL_give_23 (Nat.le_of_ble_eq_true rfl) rfl ?_
    refine ce_ldc2 dL_give_25 kRL_21 ?_
    exact ce_lret dL_give_28 rfl (by decide) (by decide) ⟨rfl, hw.tr ⟨⟨⟨hn, rfl, rfl, rfl, fun _ _ => rfl⟩, k2⟩, b, hX, k1⟩⟩
set_option maxHeartbeats 2000000 in
set_option maxRecDepth 20000 in
theorem h_has_ok {σ0 σ : ce_S} {g0 g : ce_D} {a : Nat} {S S2 : ks_S} {V : Int32} (x0 : Int32) (x1 : Int32) (x2 : Int32) (hw : kw a S σ0 g0 σ g) (hC : ∀ b, ce_LX σ a b → ce_rX g a b S → ce_CT (ce_r 5) mX7_has [.ref a, .int x0, .int x1, .int x2] σ g (kl_q σ g a S2 V) ce_no) : ce_CT (ce_rl 0 1) mL_has [.ref a, .int x0, .int x1, .int x2] σ g (kq σ0 g0 a S2 V.toInt64) ce_no := by
  obtain ⟨b, hX, hr⟩ := hw.o
  refine ce_enterH (by decide) rfl (Nat.le_of_ble_eq_true rfl) (L := [some (.ref a), some (.int x0), some (.int x1), some (.int x2), none]) rfl ?_
  refine ce_aload_n dL_has_0 rfl ?_
  refine ce_iload_n dL_has_1 rfl ?_
  refine ce_iload_n dL_has_2 rfl ?_
  refine ce_iload_n dL_has_3 rfl ?_
  refine ce_callVX dL_has_4 hX7_has kRL_44 (hC b hX hr) rfl rfl hX.1 rfl (by decide) (Nat.le_of_ble_eq_true rfl) (by decide) (by decide) (fun v σ1 g1 h => ?_) (fun E σ1 g1 h => ?_)
  · obtain ⟨rfl, h⟩ := h
    refine ce_i2l (v := V.toInt64) dL_has_7 rfl ?_
    exact ce_lret dL_has_8 rfl (by decide) (by decide) ⟨rfl, hw.tr h⟩
  · exact h.elim
set_option maxHeartbeats 2000000 in
set_option maxRecDepth 20000 in
theorem h_has_p {σ0 σ : ce_S} {g0 g : ce_D} {a : Nat} {S : ks_S} {V : Int32} (x0 : Int32) (x1 : Int32) (x2 : Int32) (hw : kw a S σ0 g0 σ g) (hC : ∀ b, ce_LX σ a b → ce_rX g a b S → ce_CT (ce_r 5) mX7_has [.ref a, .int x0, .int x1, .int x2] σ g (ce_pv V σ g) ce_no) : ce_CT (ce_rl 0 0) mL_has [.ref a, .int x0, .int x1, .int x2] σ g (ce_jv V.toInt64 σ g) ce_no := by
  obtain ⟨b, hX, hr⟩ := hw.o
  refine ce_enterH (by decide) rfl (Nat.le_of_ble_eq_true rfl) (L := [some (.ref a), some (.int x0), some (.int x1), some (.int x2), none]) rfl ?_
  refine ce_aload_n dL_has_0 rfl ?_
  refine ce_iload_n dL_has_1 rfl ?_
  refine ce_iload_n dL_has_2 rfl ?_
  refine ce_iload_n dL_has_3 rfl ?_
  refine ce_callVX dL_has_4 hX7_has kRL_44 (hC b hX hr) rfl rfl hX.1 rfl (by decide) (Nat.le_of_ble_eq_true rfl) (by decide) (by decide) (fun v σ1 g1 h => ?_) (fun E σ1 g1 h => ?_)
  · obtain ⟨rfl, rfl, rfl⟩ := h
    refine ce_i2l (v := V.toInt64) dL_has_7 rfl ?_
    exact ce_lret dL_has_8 rfl (by decide) (by decide) ⟨rfl, rfl, rfl⟩
  · exact h.elim
set_option maxHeartbeats 2000000 in
set_option maxRecDepth 20000 in
theorem h_has_n1 {σ0 σ : ce_S} {g0 g : ce_D} {a : Nat} {S : ks_S} (x0 : Int32) (x1 : Int32) (x2 : Int32) (hw : kw a S σ0 g0 σ g) (hC : ∀ b, ce_LX σ a b → ce_rX g a b S → ce_CT (ce_rx 2) mX7_has [.ref a, .int x0, .int x1, .int x2] σ g (fun _ _ _ => False) (kx_XR 1 σ g a b S)) : ce_CT (ce_rl 0 1) mL_has [.ref a, .int x0, .int x1, .int x2] σ g (kq σ0 g0 a S (-9000000000000000001 : Int64)) ce_no := by
  obtain ⟨b, hX, hr⟩ := hw.o
  refine ce_enterH (by decide) rfl (Nat.le_of_ble_eq_true rfl) (L := [some (.ref a), some (.int x0), some (.int x1), some (.int x2), none]) rfl ?_
  refine ce_aload_n dL_has_0 rfl ?_
  refine ce_iload_n dL_has_1 rfl ?_
  refine ce_iload_n dL_has_2 rfl ?_
  refine ce_iload_n dL_has_3 rfl ?_
  refine ce_callVX dL_has_4 hX7_has kRL_44 (hC b hX hr) rfl rfl hX.1 rfl (by decide) (Nat.le_of_ble_eq_true rfl) (by decide) (by decide) (fun v σ1 g1 h => ?_) (fun E σ1 g1 h => ?_)
  · exact h.elim
  · obtain ⟨⟨eE, n, hn, rfl⟩, k1, k2⟩ := h
    have eE : E = "java/lang/IndexOutOfBoundsException" := eE
    subst eE
    refine ce_xcatch (E := "java/lang/IndexOutOfBoundsException") [] 0 8 [(0, 8, 15, 15)] rfl (by decide) (fun _ hz => by cases hz) ⟨by decide, by decide⟩ (by decide) kRL_34 wc_IndexOutOfBoundsException (fun q => ?_)
    refine ce_astore dL_has_9 (Nat.le_of_ble_eq_true rfl) rfl ?_
    refine ce_ldc2 dL_has_11 kRL_36 ?_
    exact ce_lret dL_has_14 rfl (by decide) (by decide) ⟨rfl, hw.tr ⟨⟨⟨hn, rfl, rfl, rfl, fun _ _ => rfl⟩, k2⟩, b, hX, k1⟩⟩
set_option maxHeartbeats 2000000 in
set_option maxRecDepth 20000 in
theorem h_has_n2 {σ0 σ : ce_S} {g0 g : ce_D} {a : Nat} {S : ks_S} (x0 : Int32) (x1 : Int32) (x2 : Int32) (hw : kw a S σ0 g0 σ g) (hC : ∀ b, ce_LX σ a b → ce_rX g a b S → ce_CT (ce_rx 2) mX7_has [.ref a, .int x0, .int x1, .int x2] σ g (fun _ _ _ => False) (kx_XR 2 σ g a b S)) : ce_CT (ce_rl 0 1) mL_has [.ref a, .int x0, .int x1, .int x2] σ g (kq σ0 g0 a S (-9000000000000000002 : Int64)) ce_no := by
  obtain ⟨b, hX, hr⟩ := hw.o
  refine ce_enterH (by decide) rfl (Nat.le_of_ble_eq_true rfl) (L := [some (.ref a), some (.int x0), some (.int x1), some (.int x2), none]) rfl ?_
  refine ce_aload_n dL_has_0 rfl ?_
  refine ce_iload_n dL_has_1 rfl ?_
  refine ce_iload_n dL_has_2 rfl ?_
  refine ce_iload_n dL_has_3 rfl ?_
  refine ce_callVX dL_has_4 hX7_has kRL_44 (hC b hX hr) rfl rfl hX.1 rfl (by decide) (Nat.le_of_ble_eq_true rfl) (by decide) (by decide) (fun v σ1 g1 h => ?_) (fun E σ1 g1 h => ?_)
  · exact h.elim
  · obtain ⟨⟨eE, n, hn, rfl⟩, k1, k2⟩ := h
    have eE : E = "java/lang/IllegalArgumentException" := eE
    subst eE
    refine ce_xcatch (E := "java/lang/IllegalArgumentException") [(0, 8, 9, 34)] 0 8 [] rfl (by decide) (fun z hz => by
        have hz : z = (0, 8, 9, 34) := by simpa using hz
        rcases hz with rfl
        · exact ⟨by decide, "java/lang/IndexOutOfBoundsException", by decide, by decide, kRL_34⟩) ⟨by decide, by decide⟩ (by decide) kRL_15 wc_IllegalArgumentException (fun q => ?_)
    refine ce_astore dL_has_15 (Nat.le_of_ble_eq_true rfl) rfl ?_
    refine ce_ldc2 dL_has_17 kRL_17 ?_
    exact ce_lret dL_has_20 rfl (by decide) (by decide) ⟨rfl, hw.tr ⟨⟨⟨hn, rfl, rfl, rfl, fun _ _ => rfl⟩, k2⟩, b, hX, k1⟩⟩
set_option maxHeartbeats 2000000 in
set_option maxRecDepth 20000 in
theorem h_load_ok {σ0 σ : ce_S} {g0 g : ce_D} {a : Nat} {S S2 : ks_S} {V : Int32} (hw : kw a S σ0 g0 σ g) (hC : ∀ b, ce_LX σ a b → ce_rX g a b S → ce_CT (ce_r 5) mX7_load [.ref a] σ g (kl_q σ g a S2 V) ce_no) : ce_CT (ce_rl 0 1) mL_load [.ref a] σ g (kq σ0 g0 a S2 V.toInt64) ce_no := by
  obtain ⟨b, hX, hr⟩ := hw.o
  refine ce_enterH (by decide) rfl (Nat.le_of_ble_eq_true rfl) (L := [some (.ref a), none]) rfl ?_
  refine ce_aload_n dL_load_0 rfl ?_
  refine ce_callVX dL_load_1 hX7_load kRL_23 (hC b hX hr) rfl rfl hX.1 rfl (by decide) (Nat.le_of_ble_eq_true rfl) (by decide) (by decide) (fun v σ1 g1 h => ?_) (fun E σ1 g1 h => ?_)
  · obtain ⟨rfl, h⟩ := h
    refine ce_i2l (v := V.toInt64) dL_load_4 rfl ?_
    exact ce_lret dL_load_5 rfl (by decide) (by decide) ⟨rfl, hw.tr h⟩
  · exact h.elim
set_option maxHeartbeats 2000000 in
set_option maxRecDepth 20000 in
theorem h_load_n3 {σ0 σ : ce_S} {g0 g : ce_D} {a : Nat} {S : ks_S} (hw : kw a S σ0 g0 σ g) (hC : ∀ b, ce_LX σ a b → ce_rX g a b S → ce_CT (ce_rx 3) mX7_load [.ref a] σ g (fun _ _ _ => False) (kx_XR 3 σ g a b S)) : ce_CT (ce_rl 0 1) mL_load [.ref a] σ g (kq σ0 g0 a S (-9000000000000000003 : Int64)) ce_no := by
  obtain ⟨b, hX, hr⟩ := hw.o
  refine ce_enterH (by decide) rfl (Nat.le_of_ble_eq_true rfl) (L := [some (.ref a), none]) rfl ?_
  refine ce_aload_n dL_load_0 rfl ?_
  refine ce_callVX dL_load_1 hX7_load kRL_23 (hC b hX hr) rfl rfl hX.1 rfl (by decide) (Nat.le_of_ble_eq_true rfl) (by decide) (by decide) (fun v σ1 g1 h => ?_) (fun E σ1 g1 h => ?_)
  · exact h.elim
  · obtain ⟨⟨eE, n, hn, rfl⟩, k1, k2⟩ := h
    have eE : E = "java/lang/IllegalStateException" := eE
    subst eE
    refine ce_xcatch (E := "java/lang/IllegalStateException") [] 0 5 [] rfl (by decide) (fun _ hz => by cases hz) ⟨by decide, by decide⟩ (by decide) kRL_19 wc_IllegalStateException (fun q => ?_)
    refine ce_astore_n dL_load_6 (Nat.le_of_ble_eq_true rfl) rfl ?_
    refine ce_ldc2 dL_load_7 kRL_21 ?_
    exact ce_lret dL_load_10 rfl (by decide) (by decide) ⟨rfl, hw.tr ⟨⟨⟨hn, rfl, rfl, rfl, fun _ _ => rfl⟩, k2⟩, b, hX, k1⟩⟩
set_option maxHeartbeats 2000000 in
set_option maxRecDepth 20000 in
theorem h_member_ok {σ0 σ : ce_S} {g0 g : ce_D} {a : Nat} {S S2 : ks_S} {V : Int32} (x0 : Int32) (x1 : Int32) (hw : kw a S σ0 g0 σ g) (hC : ∀ b, ce_LX σ a b → ce_rX g a b S → ce_CT (ce_r 5) mX7_member [.ref a, .int x0, .int x1] σ g (kl_q σ g a S2 V) ce_no) : ce_CT (ce_rl 0 1) mL_member [.ref a, .int x0, .int x1] σ g (kq σ0 g0 a S2 V.toInt64) ce_no := by
  obtain ⟨b, hX, hr⟩ := hw.o
  refine ce_enterH (by decide) rfl (Nat.le_of_ble_eq_true rfl) (L := [some (.ref a), some (.int x0), some (.int x1), none]) rfl ?_
  refine ce_aload_n dL_member_0 rfl ?_
  refine ce_iload_n dL_member_1 rfl ?_
  refine ce_iload_n dL_member_2 rfl ?_
  refine ce_callVX dL_member_3 hX7_member kRL_30 (hC b hX hr) rfl rfl hX.1 rfl (by decide) (Nat.le_of_ble_eq_true rfl) (by decide) (by decide) (fun v σ1 g1 h => ?_) (fun E σ1 g1 h => ?_)
  · obtain ⟨rfl, h⟩ := h
    refine ce_i2l (v := V.toInt64) dL_member_6 rfl ?_
    exact ce_lret dL_member_7 rfl (by decide) (by decide) ⟨rfl, hw.tr h⟩
  · exact h.elim
set_option maxHeartbeats 2000000 in
set_option maxRecDepth 20000 in
theorem h_member_p {σ0 σ : ce_S} {g0 g : ce_D} {a : Nat} {S : ks_S} {V : Int32} (x0 : Int32) (x1 : Int32) (hw : kw a S σ0 g0 σ g) (hC : ∀ b, ce_LX σ a b → ce_rX g a b S → ce_CT (ce_r 5) mX7_member [.ref a, .int x0, .int x1] σ g (ce_pv V σ g) ce_no) : ce_CT (ce_rl 0 0) mL_member [.ref a, .int x0, .int x1] σ g (ce_jv V.toInt64 σ g) ce_no := by
  obtain ⟨b, hX, hr⟩ := hw.o
  refine ce_enterH (by decide) rfl (Nat.le_of_ble_eq_true rfl) (L := [some (.ref a), some (.int x0), some (.int x1), none]) rfl ?_
  refine ce_aload_n dL_member_0 rfl ?_
  refine ce_iload_n dL_member_1 rfl ?_
  refine ce_iload_n dL_member_2 rfl ?_
  refine ce_callVX dL_member_3 hX7_member kRL_30 (hC b hX hr) rfl rfl hX.1 rfl (by decide) (Nat.le_of_ble_eq_true rfl) (by decide) (by decide) (fun v σ1 g1 h => ?_) (fun E σ1 g1 h => ?_)
  · obtain ⟨rfl, rfl, rfl⟩ := h
    refine ce_i2l (v := V.toInt64) dL_member_6 rfl ?_
    exact ce_lret dL_member_7 rfl (by decide) (by decide) ⟨rfl, rfl, rfl⟩
  · exact h.elim
set_option maxHeartbeats 2000000 in
set_option maxRecDepth 20000 in
theorem h_member_n1 {σ0 σ : ce_S} {g0 g : ce_D} {a : Nat} {S : ks_S} (x0 : Int32) (x1 : Int32) (hw : kw a S σ0 g0 σ g) (hC : ∀ b, ce_LX σ a b → ce_rX g a b S → ce_CT (ce_rx 2) mX7_member [.ref a, .int x0, .int x1] σ g (fun _ _ _ => False) (kx_XR 1 σ g a b S)) : ce_CT (ce_rl 0 1) mL_member [.ref a, .int x0, .int x1] σ g (kq σ0 g0 a S (-9000000000000000001 : Int64)) ce_no := by
  obtain ⟨b, hX, hr⟩ := hw.o
  refine ce_enterH (by decide) rfl (Nat.le_of_ble_eq_true rfl) (L := [some (.ref a), some (.int x0), some (.int x1), none]) rfl ?_
  refine ce_aload_n dL_member_0 rfl ?_
  refine ce_iload_n dL_member_1 rfl ?_
  refine ce_iload_n dL_member_2 rfl ?_
  refine ce_callVX dL_member_3 hX7_member kRL_30 (hC b hX hr) rfl rfl hX.1 rfl (by decide) (Nat.le_of_ble_eq_true rfl) (by decide) (by decide) (fun v σ1 g1 h => ?_) (fun E σ1 g1 h => ?_)
  · exact h.elim
  · obtain ⟨⟨eE, n, hn, rfl⟩, k1, k2⟩ := h
    have eE : E = "java/lang/IndexOutOfBoundsException" := eE
    subst eE
    refine ce_xcatch (E := "java/lang/IndexOutOfBoundsException") [] 0 7 [(0, 7, 13, 15)] rfl (by decide) (fun _ hz => by cases hz) ⟨by decide, by decide⟩ (by decide) kRL_34 wc_IndexOutOfBoundsException (fun q => ?_)
    refine ce_astore_n dL_member_8 (Nat.le_of_ble_eq_true rfl) rfl ?_
    refine ce_ldc2 dL_member_9 kRL_36 ?_
    exact ce_lret dL_member_12 rfl (by decide) (by decide) ⟨rfl, hw.tr ⟨⟨⟨hn, rfl, rfl, rfl, fun _ _ => rfl⟩, k2⟩, b, hX, k1⟩⟩
set_option maxHeartbeats 2000000 in
set_option maxRecDepth 20000 in
theorem h_member_n2 {σ0 σ : ce_S} {g0 g : ce_D} {a : Nat} {S : ks_S} (x0 : Int32) (x1 : Int32) (hw : kw a S σ0 g0 σ g) (hC : ∀ b, ce_LX σ a b → ce_rX g a b S → ce_CT (ce_rx 2) mX7_member [.ref a, .int x0, .int x1] σ g (fun _ _ _ => False) (kx_XR 2 σ g a b S)) : ce_CT (ce_rl 0 1) mL_member [.ref a, .int x0, .int x1] σ g (kq σ0 g0 a S (-9000000000000000002 : Int64)) ce_no := by
  obtain ⟨b, hX, hr⟩ := hw.o
  refine ce_enterH (by decide) rfl (Nat.le_of_ble_eq_true rfl) (L := [some (.ref a), some (.int x0), some (.int x1), none]) rfl ?_
  refine ce_aload_n dL_member_0 rfl ?_
  refine ce_iload_n dL_member_1 rfl ?_
  refine ce_iload_n dL_member_2 rfl ?_
  refine ce_callVX dL_member_3 hX7_member kRL_30 (hC b hX hr) rfl rfl hX.1 rfl (by decide) (Nat.le_of_ble_eq_true rfl) (by decide) (by decide) (fun v σ1 g1 h => ?_) (fun E σ1 g1 h => ?_)
  · exact h.elim
  · obtain ⟨⟨eE, n, hn, rfl⟩, k1, k2⟩ := h
    have eE : E = "java/lang/IllegalArgumentException" := eE
    subst eE
    refine ce_xcatch (E := "java/lang/IllegalArgumentException") [(0, 7, 8, 34)] 0 7 [] rfl (by decide) (fun z hz => by
        have hz : z = (0, 7, 8, 34) := by simpa using hz
        rcases hz with rfl
        · exact ⟨by decide, "java/lang/IndexOutOfBoundsException", by decide, by decide, kRL_34⟩) ⟨by decide, by decide⟩ (by decide) kRL_15 wc_IllegalArgumentException (fun q => ?_)
    refine ce_astore_n dL_member_13 (Nat.le_of_ble_eq_true rfl) rfl ?_
    refine ce_ldc2 dL_member_14 kRL_17 ?_
    exact ce_lret dL_member_17 rfl (by decide) (by decide) ⟨rfl, hw.tr ⟨⟨⟨hn, rfl, rfl, rfl, fun _ _ => rfl⟩, k2⟩, b, hX, k1⟩⟩
set_option maxHeartbeats 2000000 in
set_option maxRecDepth 20000 in
theorem h_move_ok {σ0 σ : ce_S} {g0 g : ce_D} {a : Nat} {S S2 : ks_S} {V : Int32} (x0 : Int32) (x1 : Int32) (x2 : Int32) (hw : kw a S σ0 g0 σ g) (hC : ∀ b, ce_LX σ a b → ce_rX g a b S → ce_CT (ce_r 5) mX7_move [.ref a, .int x0, .int x1, .int x2] σ g (kl_q σ g a S2 V) ce_no) : ce_CT (ce_rl 0 1) mL_move [.ref a, .int x0, .int x1, .int x2] σ g (kq σ0 g0 a S2 V.toInt64) ce_no := by
  obtain ⟨b, hX, hr⟩ := hw.o
  refine ce_enterH (by decide) rfl (Nat.le_of_ble_eq_true rfl) (L := [some (.ref a), some (.int x0), some (.int x1), some (.int x2), none]) rfl ?_
  refine ce_aload_n dL_move_0 rfl ?_
  refine ce_iload_n dL_move_1 rfl ?_
  refine ce_iload_n dL_move_2 rfl ?_
  refine ce_iload_n dL_move_3 rfl ?_
  refine ce_callVX dL_move_4 hX7_move kRL_76 (hC b hX hr) rfl rfl hX.1 rfl (by decide) (Nat.le_of_ble_eq_true rfl) (by decide) (by decide) (fun v σ1 g1 h => ?_) (fun E σ1 g1 h => ?_)
  · obtain ⟨rfl, h⟩ := h
    refine ce_i2l (v := V.toInt64) dL_move_7 rfl ?_
    exact ce_lret dL_move_8 rfl (by decide) (by decide) ⟨rfl, hw.tr h⟩
  · exact h.elim
set_option maxHeartbeats 2000000 in
set_option maxRecDepth 20000 in
theorem h_move_n1 {σ0 σ : ce_S} {g0 g : ce_D} {a : Nat} {S : ks_S} (x0 : Int32) (x1 : Int32) (x2 : Int32) (hw : kw a S σ0 g0 σ g) (hC : ∀ b, ce_LX σ a b → ce_rX g a b S → ce_CT (ce_rx 2) mX7_move [.ref a, .int x0, .int x1, .int x2] σ g (fun _ _ _ => False) (kx_XR 1 σ g a b S)) : ce_CT (ce_rl 0 1) mL_move [.ref a, .int x0, .int x1, .int x2] σ g (kq σ0 g0 a S (-9000000000000000001 : Int64)) ce_no := by
  obtain ⟨b, hX, hr⟩ := hw.o
  refine ce_enterH (by decide) rfl (Nat.le_of_ble_eq_true rfl) (L := [some (.ref a), some (.int x0), some (.int x1), some (.int x2), none]) rfl ?_
  refine ce_aload_n dL_move_0 rfl ?_
  refine ce_iload_n dL_move_1 rfl ?_
  refine ce_iload_n dL_move_2 rfl ?_
  refine ce_iload_n dL_move_3 rfl ?_
  refine ce_callVX dL_move_4 hX7_move kRL_76 (hC b hX hr) rfl rfl hX.1 rfl (by decide) (Nat.le_of_ble_eq_true rfl) (by decide) (by decide) (fun v σ1 g1 h => ?_) (fun E σ1 g1 h => ?_)
  · exact h.elim
  · obtain ⟨⟨eE, n, hn, rfl⟩, k1, k2⟩ := h
    have eE : E = "java/lang/IndexOutOfBoundsException" := eE
    subst eE
    refine ce_xcatch (E := "java/lang/IndexOutOfBoundsException") [] 0 8 [(0, 8, 15, 15), (0, 8, 21, 19)] rfl (by decide) (fun _ hz => by cases hz) ⟨by decide, by decide⟩ (by decide) kRL_34 wc_IndexOutOfBoundsException (fun q => ?_)
    refine ce_astore dL_move_9 (Nat.le_of_ble_eq_true rfl) rfl ?_
    refine ce_ldc2 dL_move_11 kRL_36 ?_
    exact ce_lret dL_move_14 rfl (by decide) (by decide) ⟨rfl, hw.tr ⟨⟨⟨hn, rfl, rfl, rfl, fun _ _ => rfl⟩, k2⟩, b, hX, k1⟩⟩
set_option maxHeartbeats 2000000 in
set_option maxRecDepth 20000 in
theorem h_move_n2 {σ0 σ : ce_S} {g0 g : ce_D} {a : Nat} {S : ks_S} (x0 : Int32) (x1 : Int32) (x2 : Int32) (hw : kw a S σ0 g0 σ g) (hC : ∀ b, ce_LX σ a b → ce_rX g a b S → ce_CT (ce_rx 2) mX7_move [.ref a, .int x0, .int x1, .int x2] σ g (fun _ _ _ => False) (kx_XR 2 σ g a b S)) : ce_CT (ce_rl 0 1) mL_move [.ref a, .int x0, .int x1, .int x2] σ g (kq σ0 g0 a S (-9000000000000000002 : Int64)) ce_no := by
  obtain ⟨b, hX, hr⟩ := hw.o
  refine ce_enterH (by decide) rfl (Nat.le_of_ble_eq_true rfl) (L := [some (.ref a), some (.int x0), some (.int x1), some (.int x2), none]) rfl ?_
  refine ce_aload_n dL_move_0 rfl ?_
  refine ce_iload_n dL_move_1 rfl ?_
  refine ce_iload_n dL_move_2 rfl ?_
  refine ce_iload_n dL_move_3 rfl ?_
  refine ce_callVX dL_move_4 hX7_move kRL_76 (hC b hX hr) rfl rfl hX.1 rfl (by decide) (Nat.le_of_ble_eq_true rfl) (by decide) (by decide) (fun v σ1 g1 h => ?_) (fun E σ1 g1 h => ?_)
  · exact h.elim
  · obtain ⟨⟨eE, n, hn, rfl⟩, k1, k2⟩ := h
    have eE : E = "java/lang/IllegalArgumentException" := eE
    subst eE
    refine ce_xcatch (E := "java/lang/IllegalArgumentException") [(0, 8, 9, 34)] 0 8 [(0, 8, 21, 19)] rfl (by decide) (fun z hz => by
        have hz : z = (0, 8, 9, 34) := by simpa using hz
        rcases hz with rfl
        · exact ⟨by decide, "java/lang/IndexOutOfBoundsException", by decide, by decide, kRL_34⟩) ⟨by decide, by decide⟩ (by decide) kRL_15 wc_IllegalArgumentException (fun q => ?_)
    refine ce_astore dL_move_15 (Nat.le_of_ble_eq_true rfl) rfl ?_
    refine ce_ldc2 dL_move_17 kRL_17 ?_
    exact ce_lret dL_move_20 rfl (by decide) (by decide) ⟨rfl, hw.tr ⟨⟨⟨hn, rfl, rfl, rfl, fun _ _ => rfl⟩, k2⟩, b, hX, k1⟩⟩
set_option maxHeartbeats 2000000 in
set_option maxRecDepth 20000 in
theorem h_move_n3 {σ0 σ : ce_S} {g0 g : ce_D} {a : Nat} {S : ks_S} (x0 : Int32) (x1 : Int32) (x2 : Int32) (hw : kw a S σ0 g0 σ g) (hC : ∀ b, ce_LX σ a b → ce_rX g a b S → ce_CT (ce_rx 2) mX7_move [.ref a, .int x0, .int x1, .int x2] σ g (fun _ _ _ => False) (kx_XR 3 σ g a b S)) : ce_CT (ce_rl 0 1) mL_move [.ref a, .int x0, .int x1, .int x2] σ g (kq σ0 g0 a S (-9000000000000000003 : Int64)) ce_no := by
  obtain ⟨b, hX, hr⟩ := hw.o
  refine ce_enterH (by decide) rfl (Nat.le_of_ble_eq_true rfl) (L := [some (.ref a), some (.int x0), some (.int x1), some (.int x2), none]) rfl ?_
  refine ce_aload_n dL_move_0 rfl ?_
  refine ce_iload_n dL_move_1 rfl ?_
  refine ce_iload_n dL_move_2 rfl ?_
  refine ce_iload_n dL_move_3 rfl ?_
  refine ce_callVX dL_move_4 hX7_move kRL_76 (hC b hX hr) rfl rfl hX.1 rfl (by decide) (Nat.le_of_ble_eq_true rfl) (by decide) (by decide) (fun v σ1 g1 h => ?_) (fun E σ1 g1 h => ?_)
  · exact h.elim
  · obtain ⟨⟨eE, n, hn, rfl⟩, k1, k2⟩ := h
    have eE : E = "java/lang/IllegalStateException" := eE
    subst eE
    refine ce_xcatch (E := "java/lang/IllegalStateException") [(0, 8, 9, 34), (0, 8, 15, 15)] 0 8 [] rfl (by decide) (fun z hz => by
        have hz : z = (0, 8, 9, 34) ∨ z = (0, 8, 15, 15) := by simpa using hz
        rcases hz with rfl | rfl
        · exact ⟨by decide, "java/lang/IndexOutOfBoundsException", by decide, by decide, kRL_34⟩
        · exact ⟨by decide, "java/lang/IllegalArgumentException", by decide, by decide, kRL_15⟩) ⟨by decide, by decide⟩ (by decide) kRL_19 wc_IllegalStateException (fun q => ?_)
    refine ce_astore dL_move_21 (Nat.le_of_ble_eq_true rfl) rfl ?_
    refine ce_ldc2 dL_move_23 kRL_21 ?_
    exact ce_lret dL_move_26 rfl (by decide) (by decide) ⟨rfl, hw.tr ⟨⟨⟨hn, rfl, rfl, rfl, fun _ _ => rfl⟩, k2⟩, b, hX, k1⟩⟩
set_option maxHeartbeats 2000000 in
set_option maxRecDepth 20000 in
theorem h_order_ok {σ0 σ : ce_S} {g0 g : ce_D} {a : Nat} {S S2 : ks_S} {V : Int32} (x0 : Int32) (x1 : Int32) (x2 : Int32) (hw : kw a S σ0 g0 σ g) (hC : ∀ b, ce_LX σ a b → ce_rX g a b S → ce_CT (ce_r 5) mX7_order [.ref a, .int x0, .int x1, .int x2] σ g (kl_q σ g a S2 V) ce_no) : ce_CT (ce_rl 0 1) mL_order [.ref a, .int x0, .int x1, .int x2] σ g (kq σ0 g0 a S2 V.toInt64) ce_no := by
  obtain ⟨b, hX, hr⟩ := hw.o
  refine ce_enterH (by decide) rfl (Nat.le_of_ble_eq_true rfl) (L := [some (.ref a), some (.int x0), some (.int x1), some (.int x2), none]) rfl ?_
  refine ce_aload_n dL_order_0 rfl ?_
  refine ce_iload_n dL_order_1 rfl ?_
  refine ce_iload_n dL_order_2 rfl ?_
  refine ce_iload_n dL_order_3 rfl ?_
  refine ce_callVX dL_order_4 hX7_order kRL_57 (hC b hX hr) rfl rfl hX.1 rfl (by decide) (Nat.le_of_ble_eq_true rfl) (by decide) (by decide) (fun v σ1 g1 h => ?_) (fun E σ1 g1 h => ?_)
  · obtain ⟨rfl, h⟩ := h
    refine ce_i2l (v := V.toInt64) dL_order_7 rfl ?_
    exact ce_lret dL_order_8 rfl (by decide) (by decide) ⟨rfl, hw.tr h⟩
  · exact h.elim
set_option maxHeartbeats 2000000 in
set_option maxRecDepth 20000 in
theorem h_order_n1 {σ0 σ : ce_S} {g0 g : ce_D} {a : Nat} {S : ks_S} (x0 : Int32) (x1 : Int32) (x2 : Int32) (hw : kw a S σ0 g0 σ g) (hC : ∀ b, ce_LX σ a b → ce_rX g a b S → ce_CT (ce_rx 2) mX7_order [.ref a, .int x0, .int x1, .int x2] σ g (fun _ _ _ => False) (kx_XR 1 σ g a b S)) : ce_CT (ce_rl 0 1) mL_order [.ref a, .int x0, .int x1, .int x2] σ g (kq σ0 g0 a S (-9000000000000000001 : Int64)) ce_no := by
  obtain ⟨b, hX, hr⟩ := hw.o
  refine ce_enterH (by decide) rfl (Nat.le_of_ble_eq_true rfl) (L := [some (.ref a), some (.int x0), some (.int x1), some (.int x2), none]) rfl ?_
  refine ce_aload_n dL_order_0 rfl ?_
  refine ce_iload_n dL_order_1 rfl ?_
  refine ce_iload_n dL_order_2 rfl ?_
  refine ce_iload_n dL_order_3 rfl ?_
  refine ce_callVX dL_order_4 hX7_order kRL_57 (hC b hX hr) rfl rfl hX.1 rfl (by decide) (Nat.le_of_ble_eq_true rfl) (by decide) (by decide) (fun v σ1 g1 h => ?_) (fun E σ1 g1 h => ?_)
  · exact h.elim
  · obtain ⟨⟨eE, n, hn, rfl⟩, k1, k2⟩ := h
    have eE : E = "java/lang/IndexOutOfBoundsException" := eE
    subst eE
    refine ce_xcatch (E := "java/lang/IndexOutOfBoundsException") [] 0 8 [(0, 8, 15, 15), (0, 8, 21, 19)] rfl (by decide) (fun _ hz => by cases hz) ⟨by decide, by decide⟩ (by decide) kRL_34 wc_IndexOutOfBoundsException (fun q => ?_)
    refine ce_astore dL_order_9 (Nat.le_of_ble_eq_true rfl) rfl ?_
    refine ce_ldc2 dL_order_11 kRL_36 ?_
    exact ce_lret dL_order_14 rfl (by decide) (by decide) ⟨rfl, hw.tr ⟨⟨⟨hn, rfl, rfl, rfl, fun _ _ => rfl⟩, k2⟩, b, hX, k1⟩⟩
set_option maxHeartbeats 2000000 in
set_option maxRecDepth 20000 in
theorem h_order_n2 {σ0 σ : ce_S} {g0 g : ce_D} {a : Nat} {S : ks_S} (x0 : Int32) (x1 : Int32) (x2 : Int32) (hw : kw a S σ0 g0 σ g) (hC : ∀ b, ce_LX σ a b → ce_rX g a b S → ce_CT (ce_rx 2) mX7_order [.ref a, .int x0, .int x1, .int x2] σ g (fun _ _ _ => False) (kx_XR 2 σ g a b S)) : ce_CT (ce_rl 0 1) mL_order [.ref a, .int x0, .int x1, .int x2] σ g (kq σ0 g0 a S (-9000000000000000002 : Int64)) ce_no := by
  obtain ⟨b, hX, hr⟩ := hw.o
  refine ce_enterH (by decide) rfl (Nat.le_of_ble_eq_true rfl) (L := [some (.ref a), some (.int x0), some (.int x1), some (.int x2), none]) rfl ?_
  refine ce_aload_n dL_order_0 rfl ?_
  refine ce_iload_n dL_order_1 rfl ?_
  refine ce_iload_n dL_order_2 rfl ?_
  refine ce_iload_n dL_order_3 rfl ?_
  refine ce_callVX dL_order_4 hX7_order kRL_57 (hC b hX hr) rfl rfl hX.1 rfl (by decide) (Nat.le_of_ble_eq_true rfl) (by decide) (by decide) (fun v σ1 g1 h => ?_) (fun E σ1 g1 h => ?_)
  · exact h.elim
  · obtain ⟨⟨eE, n, hn, rfl⟩, k1, k2⟩ := h
    have eE : E = "java/lang/IllegalArgumentException" := eE
    subst eE
    refine ce_xcatch (E := "java/lang/IllegalArgumentException") [(0, 8, 9, 34)] 0 8 [(0, 8, 21, 19)] rfl (by decide) (fun z hz => by
        have hz : z = (0, 8, 9, 34) := by simpa using hz
        rcases hz with rfl
        · exact ⟨by decide, "java/lang/IndexOutOfBoundsException", by decide, by decide, kRL_34⟩) ⟨by decide, by decide⟩ (by decide) kRL_15 wc_IllegalArgumentException (fun q => ?_)
    refine ce_astore dL_order_15 (Nat.le_of_ble_eq_true rfl) rfl ?_
    refine ce_ldc2 dL_order_17 kRL_17 ?_
    exact ce_lret dL_order_20 rfl (by decide) (by decide) ⟨rfl, hw.tr ⟨⟨⟨hn, rfl, rfl, rfl, fun _ _ => rfl⟩, k2⟩, b, hX, k1⟩⟩
set_option maxHeartbeats 2000000 in
set_option maxRecDepth 20000 in
theorem h_order_n3 {σ0 σ : ce_S} {g0 g : ce_D} {a : Nat} {S : ks_S} (x0 : Int32) (x1 : Int32) (x2 : Int32) (hw : kw a S σ0 g0 σ g) (hC : ∀ b, ce_LX σ a b → ce_rX g a b S → ce_CT (ce_rx 2) mX7_order [.ref a, .int x0, .int x1, .int x2] σ g (fun _ _ _ => False) (kx_XR 3 σ g a b S)) : ce_CT (ce_rl 0 1) mL_order [.ref a, .int x0, .int x1, .int x2] σ g (kq σ0 g0 a S (-9000000000000000003 : Int64)) ce_no := by
  obtain ⟨b, hX, hr⟩ := hw.o
  refine ce_enterH (by decide) rfl (Nat.le_of_ble_eq_true rfl) (L := [some (.ref a), some (.int x0), some (.int x1), some (.int x2), none]) rfl ?_
  refine ce_aload_n dL_order_0 rfl ?_
  refine ce_iload_n dL_order_1 rfl ?_
  refine ce_iload_n dL_order_2 rfl ?_
  refine ce_iload_n dL_order_3 rfl ?_
  refine ce_callVX dL_order_4 hX7_order kRL_57 (hC b hX hr) rfl rfl hX.1 rfl (by decide) (Nat.le_of_ble_eq_true rfl) (by decide) (by decide) (fun v σ1 g1 h => ?_) (fun E σ1 g1 h => ?_)
  · exact h.elim
  · obtain ⟨⟨eE, n, hn, rfl⟩, k1, k2⟩ := h
    have eE : E = "java/lang/IllegalStateException" := eE
    subst eE
    refine ce_xcatch (E := "java/lang/IllegalStateException") [(0, 8, 9, 34), (0, 8, 15, 15)] 0 8 [] rfl (by decide) (fun z hz => by
        have hz : z = (0, 8, 9, 34) ∨ z = (0, 8, 15, 15) := by simpa using hz
        rcases hz with rfl | rfl
        · exact ⟨by decide, "java/lang/IndexOutOfBoundsException", by decide, by decide, kRL_34⟩
        · exact ⟨by decide, "java/lang/IllegalArgumentException", by decide, by decide, kRL_15⟩) ⟨by decide, by decide⟩ (by decide) kRL_19 wc_IllegalStateException (fun q => ?_)
    refine ce_astore dL_order_21 (Nat.le_of_ble_eq_true rfl) rfl ?_
    refine ce_ldc2 dL_order_23 kRL_21 ?_
    exact ce_lret dL_order_26 rfl (by decide) (by decide) ⟨rfl, hw.tr ⟨⟨⟨hn, rfl, rfl, rfl, fun _ _ => rfl⟩, k2⟩, b, hX, k1⟩⟩
set_option maxHeartbeats 2000000 in
set_option maxRecDepth 20000 in
theorem h_pay_ok {σ0 σ : ce_S} {g0 g : ce_D} {a : Nat} {S S2 : ks_S} {V : Int32} (x0 : Int32) (hw : kw a S σ0 g0 σ g) (hC : ∀ b, ce_LX σ a b → ce_rX g a b S → ce_CT (ce_r 5) mX7_pay [.ref a, .int x0] σ g (kl_q σ g a S2 V) ce_no) : ce_CT (ce_rl 0 1) mL_pay [.ref a, .int x0] σ g (kq σ0 g0 a S2 V.toInt64) ce_no := by
  obtain ⟨b, hX, hr⟩ := hw.o
  refine ce_enterH (by decide) rfl (Nat.le_of_ble_eq_true rfl) (L := [some (.ref a), some (.int x0), none]) rfl ?_
  refine ce_aload_n dL_pay_0 rfl ?_
  refine ce_iload_n dL_pay_1 rfl ?_
  refine ce_callVX dL_pay_2 hX7_pay kRL_79 (hC b hX hr) rfl rfl hX.1 rfl (by decide) (Nat.le_of_ble_eq_true rfl) (by decide) (by decide) (fun v σ1 g1 h => ?_) (fun E σ1 g1 h => ?_)
  · obtain ⟨rfl, h⟩ := h
    refine ce_i2l (v := V.toInt64) dL_pay_5 rfl ?_
    exact ce_lret dL_pay_6 rfl (by decide) (by decide) ⟨rfl, hw.tr h⟩
  · exact h.elim
set_option maxHeartbeats 2000000 in
set_option maxRecDepth 20000 in
theorem h_pay_n1 {σ0 σ : ce_S} {g0 g : ce_D} {a : Nat} {S : ks_S} (x0 : Int32) (hw : kw a S σ0 g0 σ g) (hC : ∀ b, ce_LX σ a b → ce_rX g a b S → ce_CT (ce_rx 2) mX7_pay [.ref a, .int x0] σ g (fun _ _ _ => False) (kx_XR 1 σ g a b S)) : ce_CT (ce_rl 0 1) mL_pay [.ref a, .int x0] σ g (kq σ0 g0 a S (-9000000000000000001 : Int64)) ce_no := by
  obtain ⟨b, hX, hr⟩ := hw.o
  refine ce_enterH (by decide) rfl (Nat.le_of_ble_eq_true rfl) (L := [some (.ref a), some (.int x0), none]) rfl ?_
  refine ce_aload_n dL_pay_0 rfl ?_
  refine ce_iload_n dL_pay_1 rfl ?_
  refine ce_callVX dL_pay_2 hX7_pay kRL_79 (hC b hX hr) rfl rfl hX.1 rfl (by decide) (Nat.le_of_ble_eq_true rfl) (by decide) (by decide) (fun v σ1 g1 h => ?_) (fun E σ1 g1 h => ?_)
  · exact h.elim
  · obtain ⟨⟨eE, n, hn, rfl⟩, k1, k2⟩ := h
    have eE : E = "java/lang/IndexOutOfBoundsException" := eE
    subst eE
    refine ce_xcatch (E := "java/lang/IndexOutOfBoundsException") [] 0 6 [] rfl (by decide) (fun _ hz => by cases hz) ⟨by decide, by decide⟩ (by decide) kRL_34 wc_IndexOutOfBoundsException (fun q => ?_)
    refine ce_astore_n dL_pay_7 (Nat.le_of_ble_eq_true rfl) rfl ?_
    refine ce_ldc2 dL_pay_8 kRL_36 ?_
    exact ce_lret dL_pay_11 rfl (by decide) (by decide) ⟨rfl, hw.tr ⟨⟨⟨hn, rfl, rfl, rfl, fun _ _ => rfl⟩, k2⟩, b, hX, k1⟩⟩
set_option maxHeartbeats 2000000 in
set_option maxRecDepth 20000 in
theorem h_restore_ok {σ0 σ : ce_S} {g0 g : ce_D} {a : Nat} {S S2 : ks_S} {V : Int32} (x0 : Int32) (hw : kw a S σ0 g0 σ g) (hC : ∀ b, ce_LX σ a b → ce_rX g a b S → ce_CT (ce_r 5) mX7_restore [.ref a, .int x0] σ g (kl_q σ g a S2 V) ce_no) : ce_CT (ce_rl 0 1) mL_restore [.ref a, .int x0] σ g (kq σ0 g0 a S2 V.toInt64) ce_no := by
  obtain ⟨b, hX, hr⟩ := hw.o
  refine ce_enterH (by decide) rfl (Nat.le_of_ble_eq_true rfl) (L := [some (.ref a), some (.int x0), none]) rfl ?_
  refine ce_aload_n dL_restore_0 rfl ?_
  refine ce_iload_n dL_restore_1 rfl ?_
  refine ce_callVX dL_restore_2 hX7_restore kRL_105 (hC b hX hr) rfl rfl hX.1 rfl (by decide) (Nat.le_of_ble_eq_true rfl) (by decide) (by decide) (fun v σ1 g1 h => ?_) (fun E σ1 g1 h => ?_)
  · obtain ⟨rfl, h⟩ := h
    refine ce_i2l (v := V.toInt64) dL_restore_5 rfl ?_
    exact ce_lret dL_restore_6 rfl (by decide) (by decide) ⟨rfl, hw.tr h⟩
  · exact h.elim
set_option maxHeartbeats 2000000 in
set_option maxRecDepth 20000 in
theorem h_restore_n1 {σ0 σ : ce_S} {g0 g : ce_D} {a : Nat} {S : ks_S} (x0 : Int32) (hw : kw a S σ0 g0 σ g) (hC : ∀ b, ce_LX σ a b → ce_rX g a b S → ce_CT (ce_rx 2) mX7_restore [.ref a, .int x0] σ g (fun _ _ _ => False) (kx_XR 1 σ g a b S)) : ce_CT (ce_rl 0 1) mL_restore [.ref a, .int x0] σ g (kq σ0 g0 a S (-9000000000000000001 : Int64)) ce_no := by
  obtain ⟨b, hX, hr⟩ := hw.o
  refine ce_enterH (by decide) rfl (Nat.le_of_ble_eq_true rfl) (L := [some (.ref a), some (.int x0), none]) rfl ?_
  refine ce_aload_n dL_restore_0 rfl ?_
  refine ce_iload_n dL_restore_1 rfl ?_
  refine ce_callVX dL_restore_2 hX7_restore kRL_105 (hC b hX hr) rfl rfl hX.1 rfl (by decide) (Nat.le_of_ble_eq_true rfl) (by decide) (by decide) (fun v σ1 g1 h => ?_) (fun E σ1 g1 h => ?_)
  · exact h.elim
  · obtain ⟨⟨eE, n, hn, rfl⟩, k1, k2⟩ := h
    have eE : E = "java/lang/IndexOutOfBoundsException" := eE
    subst eE
    refine ce_xcatch (E := "java/lang/IndexOutOfBoundsException") [] 0 6 [(0, 6, 12, 19)] rfl (by decide) (fun _ hz => by cases hz) ⟨by decide, by decide⟩ (by decide) kRL_34 wc_IndexOutOfBoundsException (fun q => ?_)
    refine ce_astore_n dL_restore_7 (Nat.le_of_ble_eq_true rfl) rfl ?_
    refine ce_ldc2 dL_restore_8 kRL_36 ?_
    exact ce_lret dL_restore_11 rfl (by decide) (by decide) ⟨rfl, hw.tr ⟨⟨⟨hn, rfl, rfl, rfl, fun _ _ => rfl⟩, k2⟩, b, hX, k1⟩⟩
set_option maxHeartbeats 2000000 in
set_option maxRecDepth 20000 in
theorem h_restore_n3 {σ0 σ : ce_S} {g0 g : ce_D} {a : Nat} {S : ks_S} (x0 : Int32) (hw : kw a S σ0 g0 σ g) (hC : ∀ b, ce_LX σ a b → ce_rX g a b S → ce_CT (ce_rx 2) mX7_restore [.ref a, .int x0] σ g (fun _ _ _ => False) (kx_XR 3 σ g a b S)) : ce_CT (ce_rl 0 1) mL_restore [.ref a, .int x0] σ g (kq σ0 g0 a S (-9000000000000000003 : Int64)) ce_no := by
  obtain ⟨b, hX, hr⟩ := hw.o
  refine ce_enterH (by decide) rfl (Nat.le_of_ble_eq_true rfl) (L := [some (.ref a), some (.int x0), none]) rfl ?_
  refine ce_aload_n dL_restore_0 rfl ?_
  refine ce_iload_n dL_restore_1 rfl ?_
  refine ce_callVX dL_restore_2 hX7_restore kRL_105 (hC b hX hr) rfl rfl hX.1 rfl (by decide) (Nat.le_of_ble_eq_true rfl) (by decide) (by decide) (fun v σ1 g1 h => ?_) (fun E σ1 g1 h => ?_)
  · exact h.elim
  · obtain ⟨⟨eE, n, hn, rfl⟩, k1, k2⟩ := h
    have eE : E = "java/lang/IllegalStateException" := eE
    subst eE
    refine ce_xcatch (E := "java/lang/IllegalStateException") [(0, 6, 7, 34)] 0 6 [] rfl (by decide) (fun z hz => by
        have hz : z = (0, 6, 7, 34) := by simpa using hz
        rcases hz with rfl
        · exact ⟨by decide, "java/lang/IndexOutOfBoundsException", by decide, by decide, kRL_34⟩) ⟨by decide, by decide⟩ (by decide) kRL_19 wc_IllegalStateException (fun q => ?_)
    refine ce_astore_n dL_restore_12 (Nat.le_of_ble_eq_true rfl) rfl ?_
    refine ce_ldc2 dL_restore_13 kRL_21 ?_
    exact ce_lret dL_restore_16 rfl (by decide) (by decide) ⟨rfl, hw.tr ⟨⟨⟨hn, rfl, rfl, rfl, fun _ _ => rfl⟩, k2⟩, b, hX, k1⟩⟩
set_option maxHeartbeats 2000000 in
set_option maxRecDepth 20000 in
theorem h_roomFor_ok {σ0 σ : ce_S} {g0 g : ce_D} {a : Nat} {S S2 : ks_S} {V : Int32} (x0 : Int32) (hw : kw a S σ0 g0 σ g) (hC : ∀ b, ce_LX σ a b → ce_rX g a b S → ce_CT (ce_r 5) mX7_roomFor [.ref a, .int x0] σ g (kl_q σ g a S2 V) ce_no) : ce_CT (ce_rl 0 1) mL_roomFor [.ref a, .int x0] σ g (kq σ0 g0 a S2 V.toInt64) ce_no := by
  obtain ⟨b, hX, hr⟩ := hw.o
  refine ce_enterH (by decide) rfl (Nat.le_of_ble_eq_true rfl) (L := [some (.ref a), some (.int x0), none]) rfl ?_
  refine ce_aload_n dL_roomFor_0 rfl ?_
  refine ce_iload_n dL_roomFor_1 rfl ?_
  refine ce_callVX dL_roomFor_2 hX7_roomFor kRL_88 (hC b hX hr) rfl rfl hX.1 rfl (by decide) (Nat.le_of_ble_eq_true rfl) (by decide) (by decide) (fun v σ1 g1 h => ?_) (fun E σ1 g1 h => ?_)
  · obtain ⟨rfl, h⟩ := h
    refine ce_i2l (v := V.toInt64) dL_roomFor_5 rfl ?_
    exact ce_lret dL_roomFor_6 rfl (by decide) (by decide) ⟨rfl, hw.tr h⟩
  · exact h.elim
set_option maxHeartbeats 2000000 in
set_option maxRecDepth 20000 in
theorem h_roomFor_p {σ0 σ : ce_S} {g0 g : ce_D} {a : Nat} {S : ks_S} {V : Int32} (x0 : Int32) (hw : kw a S σ0 g0 σ g) (hC : ∀ b, ce_LX σ a b → ce_rX g a b S → ce_CT (ce_r 5) mX7_roomFor [.ref a, .int x0] σ g (ce_pv V σ g) ce_no) : ce_CT (ce_rl 0 0) mL_roomFor [.ref a, .int x0] σ g (ce_jv V.toInt64 σ g) ce_no := by
  obtain ⟨b, hX, hr⟩ := hw.o
  refine ce_enterH (by decide) rfl (Nat.le_of_ble_eq_true rfl) (L := [some (.ref a), some (.int x0), none]) rfl ?_
  refine ce_aload_n dL_roomFor_0 rfl ?_
  refine ce_iload_n dL_roomFor_1 rfl ?_
  refine ce_callVX dL_roomFor_2 hX7_roomFor kRL_88 (hC b hX hr) rfl rfl hX.1 rfl (by decide) (Nat.le_of_ble_eq_true rfl) (by decide) (by decide) (fun v σ1 g1 h => ?_) (fun E σ1 g1 h => ?_)
  · obtain ⟨rfl, rfl, rfl⟩ := h
    refine ce_i2l (v := V.toInt64) dL_roomFor_5 rfl ?_
    exact ce_lret dL_roomFor_6 rfl (by decide) (by decide) ⟨rfl, rfl, rfl⟩
  · exact h.elim
set_option maxHeartbeats 2000000 in
set_option maxRecDepth 20000 in
theorem h_roomFor_n1 {σ0 σ : ce_S} {g0 g : ce_D} {a : Nat} {S : ks_S} (x0 : Int32) (hw : kw a S σ0 g0 σ g) (hC : ∀ b, ce_LX σ a b → ce_rX g a b S → ce_CT (ce_rx 2) mX7_roomFor [.ref a, .int x0] σ g (fun _ _ _ => False) (kx_XR 1 σ g a b S)) : ce_CT (ce_rl 0 1) mL_roomFor [.ref a, .int x0] σ g (kq σ0 g0 a S (-9000000000000000001 : Int64)) ce_no := by
  obtain ⟨b, hX, hr⟩ := hw.o
  refine ce_enterH (by decide) rfl (Nat.le_of_ble_eq_true rfl) (L := [some (.ref a), some (.int x0), none]) rfl ?_
  refine ce_aload_n dL_roomFor_0 rfl ?_
  refine ce_iload_n dL_roomFor_1 rfl ?_
  refine ce_callVX dL_roomFor_2 hX7_roomFor kRL_88 (hC b hX hr) rfl rfl hX.1 rfl (by decide) (Nat.le_of_ble_eq_true rfl) (by decide) (by decide) (fun v σ1 g1 h => ?_) (fun E σ1 g1 h => ?_)
  · exact h.elim
  · obtain ⟨⟨eE, n, hn, rfl⟩, k1, k2⟩ := h
    have eE : E = "java/lang/IndexOutOfBoundsException" := eE
    subst eE
    refine ce_xcatch (E := "java/lang/IndexOutOfBoundsException") [] 0 6 [] rfl (by decide) (fun _ hz => by cases hz) ⟨by decide, by decide⟩ (by decide) kRL_34 wc_IndexOutOfBoundsException (fun q => ?_)
    refine ce_astore_n dL_roomFor_7 (Nat.le_of_ble_eq_true rfl) rfl ?_
    refine ce_ldc2 dL_roomFor_8 kRL_36 ?_
    exact ce_lret dL_roomFor_11 rfl (by decide) (by decide) ⟨rfl, hw.tr ⟨⟨⟨hn, rfl, rfl, rfl, fun _ _ => rfl⟩, k2⟩, b, hX, k1⟩⟩
set_option maxHeartbeats 2000000 in
set_option maxRecDepth 20000 in
theorem h_save_ok {σ0 σ : ce_S} {g0 g : ce_D} {a : Nat} {S S2 : ks_S} {V : Int32} (x0 : Int32) (hw : kw a S σ0 g0 σ g) (hC : ∀ b, ce_LX σ a b → ce_rX g a b S → ce_CT (ce_r 5) mX7_save [.ref a, .int x0] σ g (kl_q σ g a S2 V) ce_no) : ce_CT (ce_rl 0 1) mL_save [.ref a, .int x0] σ g (kq σ0 g0 a S2 V.toInt64) ce_no := by
  obtain ⟨b, hX, hr⟩ := hw.o
  refine ce_enterH (by decide) rfl (Nat.le_of_ble_eq_true rfl) (L := [some (.ref a), some (.int x0), none]) rfl ?_
  refine ce_aload_n dL_save_0 rfl ?_
  refine ce_iload_n dL_save_1 rfl ?_
  refine ce_callVX dL_save_2 hX7_save kRL_102 (hC b hX hr) rfl rfl hX.1 rfl (by decide) (Nat.le_of_ble_eq_true rfl) (by decide) (by decide) (fun v σ1 g1 h => ?_) (fun E σ1 g1 h => ?_)
  · obtain ⟨rfl, h⟩ := h
    refine ce_i2l (v := V.toInt64) dL_save_5 rfl ?_
    exact ce_lret dL_save_6 rfl (by decide) (by decide) ⟨rfl, hw.tr h⟩
  · exact h.elim
set_option maxHeartbeats 2000000 in
set_option maxRecDepth 20000 in
theorem h_save_n1 {σ0 σ : ce_S} {g0 g : ce_D} {a : Nat} {S : ks_S} (x0 : Int32) (hw : kw a S σ0 g0 σ g) (hC : ∀ b, ce_LX σ a b → ce_rX g a b S → ce_CT (ce_rx 2) mX7_save [.ref a, .int x0] σ g (fun _ _ _ => False) (kx_XR 1 σ g a b S)) : ce_CT (ce_rl 0 1) mL_save [.ref a, .int x0] σ g (kq σ0 g0 a S (-9000000000000000001 : Int64)) ce_no := by
  obtain ⟨b, hX, hr⟩ := hw.o
  refine ce_enterH (by decide) rfl (Nat.le_of_ble_eq_true rfl) (L := [some (.ref a), some (.int x0), none]) rfl ?_
  refine ce_aload_n dL_save_0 rfl ?_
  refine ce_iload_n dL_save_1 rfl ?_
  refine ce_callVX dL_save_2 hX7_save kRL_102 (hC b hX hr) rfl rfl hX.1 rfl (by decide) (Nat.le_of_ble_eq_true rfl) (by decide) (by decide) (fun v σ1 g1 h => ?_) (fun E σ1 g1 h => ?_)
  · exact h.elim
  · obtain ⟨⟨eE, n, hn, rfl⟩, k1, k2⟩ := h
    have eE : E = "java/lang/IndexOutOfBoundsException" := eE
    subst eE
    refine ce_xcatch (E := "java/lang/IndexOutOfBoundsException") [] 0 6 [] rfl (by decide) (fun _ hz => by cases hz) ⟨by decide, by decide⟩ (by decide) kRL_34 wc_IndexOutOfBoundsException (fun q => ?_)
    refine ce_astore_n dL_save_7 (Nat.le_of_ble_eq_true rfl) rfl ?_
    refine ce_ldc2 dL_save_8 kRL_36 ?_
    exact ce_lret dL_save_11 rfl (by decide) (by decide) ⟨rfl, hw.tr ⟨⟨⟨hn, rfl, rfl, rfl, fun _ _ => rfl⟩, k2⟩, b, hX, k1⟩⟩
set_option maxHeartbeats 2000000 in
set_option maxRecDepth 20000 in
theorem h_script_ok {σ0 σ : ce_S} {g0 g : ce_D} {a : Nat} {S S2 : ks_S} {V : Int32} (x0 : Int32) (t1 : Int64) (hw : kw a S σ0 g0 σ g) (hC : ∀ b, ce_LX σ a b → ce_rX g a b S → ce_CT (ce_r 6) mX7_runScript [.ref a, .int x0, .long t1] σ g (kl_q σ g a S2 V) ce_no) : ce_CT (ce_rl 0 1) mL_script [.ref a, .int x0, .long t1] σ g (kq σ0 g0 a S2 V.toInt64) ce_no := by
  obtain ⟨b, hX, hr⟩ := hw.o
  refine ce_enterH (by decide) rfl (Nat.le_of_ble_eq_true rfl) (L := [some (.ref a), some (.int x0), some (.long t1), none, none]) rfl ?_
  refine ce_aload_n dL_script_0 rfl ?_
  refine ce_iload_n dL_script_1 rfl ?_
  refine ce_lload_n dL_script_2 rfl ?_
  refine ce_callVX dL_script_3 hX7_runScript kRL_94 (hC b hX hr) rfl rfl hX.1 rfl (by decide) (Nat.le_of_ble_eq_true rfl) (by decide) (by decide) (fun v σ1 g1 h => ?_) (fun E σ1 g1 h => ?_)
  · obtain ⟨rfl, h⟩ := h
    refine ce_i2l (v := V.toInt64) dL_script_6 rfl ?_
    exact ce_lret dL_script_7 rfl (by decide) (by decide) ⟨rfl, hw.tr h⟩
  · exact h.elim
set_option maxHeartbeats 2000000 in
set_option maxRecDepth 20000 in
theorem h_script_n2 {σ0 σ : ce_S} {g0 g : ce_D} {a : Nat} {S : ks_S} (x0 : Int32) (t1 : Int64) (hw : kw a S σ0 g0 σ g) (hC : ∀ b, ce_LX σ a b → ce_rX g a b S → ce_CT (ce_rx 2) mX7_runScript [.ref a, .int x0, .long t1] σ g (fun _ _ _ => False) (kx_XR 2 σ g a b S)) : ce_CT (ce_rl 0 1) mL_script [.ref a, .int x0, .long t1] σ g (kq σ0 g0 a S (-9000000000000000002 : Int64)) ce_no := by
  obtain ⟨b, hX, hr⟩ := hw.o
  refine ce_enterH (by decide) rfl (Nat.le_of_ble_eq_true rfl) (L := [some (.ref a), some (.int x0), some (.long t1), none, none]) rfl ?_
  refine ce_aload_n dL_script_0 rfl ?_
  refine ce_iload_n dL_script_1 rfl ?_
  refine ce_lload_n dL_script_2 rfl ?_
  refine ce_callVX dL_script_3 hX7_runScript kRL_94 (hC b hX hr) rfl rfl hX.1 rfl (by decide) (Nat.le_of_ble_eq_true rfl) (by decide) (by decide) (fun v σ1 g1 h => ?_) (fun E σ1 g1 h => ?_)
  · exact h.elim
  · obtain ⟨⟨eE, n, hn, rfl⟩, k1, k2⟩ := h
    have eE : E = "java/lang/IllegalArgumentException" := eE
    subst eE
    refine ce_xcatch (E := "java/lang/IllegalArgumentException") [] 0 7 [] rfl (by decide) (fun _ hz => by cases hz) ⟨by decide, by decide⟩ (by decide) kRL_15 wc_IllegalArgumentException (fun q => ?_)
    refine ce_astore dL_script_8 (Nat.le_of_ble_eq_true rfl) rfl ?_
    refine ce_ldc2 dL_script_10 kRL_17 ?_
    exact ce_lret dL_script_13 rfl (by decide) (by decide) ⟨rfl, hw.tr ⟨⟨⟨hn, rfl, rfl, rfl, fun _ _ => rfl⟩, k2⟩, b, hX, k1⟩⟩
set_option maxHeartbeats 2000000 in
set_option maxRecDepth 20000 in
theorem h_shortest_ok {σ0 σ : ce_S} {g0 g : ce_D} {a : Nat} {S S2 : ks_S} {V : Int32} (x0 : Int32) (hw : kw a S σ0 g0 σ g) (hC : ∀ b, ce_LX σ a b → ce_rX g a b S → ce_CT (ce_r 5) mX7_shortest [.ref a, .int x0] σ g (kl_q σ g a S2 V) ce_no) : ce_CT (ce_rl 0 1) mL_shortest [.ref a, .int x0] σ g (kq σ0 g0 a S2 V.toInt64) ce_no := by
  obtain ⟨b, hX, hr⟩ := hw.o
  refine ce_enterH (by decide) rfl (Nat.le_of_ble_eq_true rfl) (L := [some (.ref a), some (.int x0), none]) rfl ?_
  refine ce_aload_n dL_shortest_0 rfl ?_
  refine ce_iload_n dL_shortest_1 rfl ?_
  refine ce_callVX dL_shortest_2 hX7_shortest kRL_91 (hC b hX hr) rfl rfl hX.1 rfl (by decide) (Nat.le_of_ble_eq_true rfl) (by decide) (by decide) (fun v σ1 g1 h => ?_) (fun E σ1 g1 h => ?_)
  · obtain ⟨rfl, h⟩ := h
    refine ce_i2l (v := V.toInt64) dL_shortest_5 rfl ?_
    exact ce_lret dL_shortest_6 rfl (by decide) (by decide) ⟨rfl, hw.tr h⟩
  · exact h.elim
set_option maxHeartbeats 2000000 in
set_option maxRecDepth 20000 in
theorem h_shortest_p {σ0 σ : ce_S} {g0 g : ce_D} {a : Nat} {S : ks_S} {V : Int32} (x0 : Int32) (hw : kw a S σ0 g0 σ g) (hC : ∀ b, ce_LX σ a b → ce_rX g a b S → ce_CT (ce_r 5) mX7_shortest [.ref a, .int x0] σ g (ce_pv V σ g) ce_no) : ce_CT (ce_rl 0 0) mL_shortest [.ref a, .int x0] σ g (ce_jv V.toInt64 σ g) ce_no := by
  obtain ⟨b, hX, hr⟩ := hw.o
  refine ce_enterH (by decide) rfl (Nat.le_of_ble_eq_true rfl) (L := [some (.ref a), some (.int x0), none]) rfl ?_
  refine ce_aload_n dL_shortest_0 rfl ?_
  refine ce_iload_n dL_shortest_1 rfl ?_
  refine ce_callVX dL_shortest_2 hX7_shortest kRL_91 (hC b hX hr) rfl rfl hX.1 rfl (by decide) (Nat.le_of_ble_eq_true rfl) (by decide) (by decide) (fun v σ1 g1 h => ?_) (fun E σ1 g1 h => ?_)
  · obtain ⟨rfl, rfl, rfl⟩ := h
    refine ce_i2l (v := V.toInt64) dL_shortest_5 rfl ?_
    exact ce_lret dL_shortest_6 rfl (by decide) (by decide) ⟨rfl, rfl, rfl⟩
  · exact h.elim
set_option maxHeartbeats 2000000 in
set_option maxRecDepth 20000 in
theorem h_shortest_n1 {σ0 σ : ce_S} {g0 g : ce_D} {a : Nat} {S : ks_S} (x0 : Int32) (hw : kw a S σ0 g0 σ g) (hC : ∀ b, ce_LX σ a b → ce_rX g a b S → ce_CT (ce_rx 2) mX7_shortest [.ref a, .int x0] σ g (fun _ _ _ => False) (kx_XR 1 σ g a b S)) : ce_CT (ce_rl 0 1) mL_shortest [.ref a, .int x0] σ g (kq σ0 g0 a S (-9000000000000000001 : Int64)) ce_no := by
  obtain ⟨b, hX, hr⟩ := hw.o
  refine ce_enterH (by decide) rfl (Nat.le_of_ble_eq_true rfl) (L := [some (.ref a), some (.int x0), none]) rfl ?_
  refine ce_aload_n dL_shortest_0 rfl ?_
  refine ce_iload_n dL_shortest_1 rfl ?_
  refine ce_callVX dL_shortest_2 hX7_shortest kRL_91 (hC b hX hr) rfl rfl hX.1 rfl (by decide) (Nat.le_of_ble_eq_true rfl) (by decide) (by decide) (fun v σ1 g1 h => ?_) (fun E σ1 g1 h => ?_)
  · exact h.elim
  · obtain ⟨⟨eE, n, hn, rfl⟩, k1, k2⟩ := h
    have eE : E = "java/lang/IndexOutOfBoundsException" := eE
    subst eE
    refine ce_xcatch (E := "java/lang/IndexOutOfBoundsException") [] 0 6 [] rfl (by decide) (fun _ hz => by cases hz) ⟨by decide, by decide⟩ (by decide) kRL_34 wc_IndexOutOfBoundsException (fun q => ?_)
    refine ce_astore_n dL_shortest_7 (Nat.le_of_ble_eq_true rfl) rfl ?_
    refine ce_ldc2 dL_shortest_8 kRL_36 ?_
    exact ce_lret dL_shortest_11 rfl (by decide) (by decide) ⟨rfl, hw.tr ⟨⟨⟨hn, rfl, rfl, rfl, fun _ _ => rfl⟩, k2⟩, b, hX, k1⟩⟩
set_option maxHeartbeats 2000000 in
set_option maxRecDepth 20000 in
theorem h_simulate_ok {σ0 σ : ce_S} {g0 g : ce_D} {a : Nat} {S S2 : ks_S} {V : Int32} (t0 : Int64) (x1 : Int32) (hw : kw a S σ0 g0 σ g) (hC : ∀ b, ce_LX σ a b → ce_rX g a b S → ce_CT (ce_r 6) mX7_simulate [.ref a, .long t0, .int x1] σ g (kl_q σ g a S2 V) ce_no) : ce_CT (ce_rl 0 1) mL_simulate [.ref a, .long t0, .int x1] σ g (kq σ0 g0 a S2 V.toInt64) ce_no := by
  obtain ⟨b, hX, hr⟩ := hw.o
  refine ce_enterH (by decide) rfl (Nat.le_of_ble_eq_true rfl) (L := [some (.ref a), some (.long t0), none, some (.int x1), none]) rfl ?_
  refine ce_aload_n dL_simulate_0 rfl ?_
  refine ce_lload_n dL_simulate_1 rfl ?_
  refine ce_iload_n dL_simulate_2 rfl ?_
  refine ce_callVX dL_simulate_3 hX7_simulate kRL_98 (hC b hX hr) rfl rfl hX.1 rfl (by decide) (Nat.le_of_ble_eq_true rfl) (by decide) (by decide) (fun v σ1 g1 h => ?_) (fun E σ1 g1 h => ?_)
  · obtain ⟨rfl, h⟩ := h
    refine ce_i2l (v := V.toInt64) dL_simulate_6 rfl ?_
    exact ce_lret dL_simulate_7 rfl (by decide) (by decide) ⟨rfl, hw.tr h⟩
  · exact h.elim
set_option maxHeartbeats 2000000 in
set_option maxRecDepth 20000 in
theorem h_simulate_n2 {σ0 σ : ce_S} {g0 g : ce_D} {a : Nat} {S : ks_S} (t0 : Int64) (x1 : Int32) (hw : kw a S σ0 g0 σ g) (hC : ∀ b, ce_LX σ a b → ce_rX g a b S → ce_CT (ce_rx 2) mX7_simulate [.ref a, .long t0, .int x1] σ g (fun _ _ _ => False) (kx_XR 2 σ g a b S)) : ce_CT (ce_rl 0 1) mL_simulate [.ref a, .long t0, .int x1] σ g (kq σ0 g0 a S (-9000000000000000002 : Int64)) ce_no := by
  obtain ⟨b, hX, hr⟩ := hw.o
  refine ce_enterH (by decide) rfl (Nat.le_of_ble_eq_true rfl) (L := [some (.ref a), some (.long t0), none, some (.int x1), none]) rfl ?_
  refine ce_aload_n dL_simulate_0 rfl ?_
  refine ce_lload_n dL_simulate_1 rfl ?_
  refine ce_iload_n dL_simulate_2 rfl ?_
  refine ce_callVX dL_simulate_3 hX7_simulate kRL_98 (hC b hX hr) rfl rfl hX.1 rfl (by decide) (Nat.le_of_ble_eq_true rfl) (by decide) (by decide) (fun v σ1 g1 h => ?_) (fun E σ1 g1 h => ?_)
  · exact h.elim
  · obtain ⟨⟨eE, n, hn, rfl⟩, k1, k2⟩ := h
    have eE : E = "java/lang/IllegalArgumentException" := eE
    subst eE
    refine ce_xcatch (E := "java/lang/IllegalArgumentException") [] 0 7 [] rfl (by decide) (fun _ hz => by cases hz) ⟨by decide, by decide⟩ (by decide) kRL_15 wc_IllegalArgumentException (fun q => ?_)
    refine ce_astore dL_simulate_8 (Nat.le_of_ble_eq_true rfl) rfl ?_
    refine ce_ldc2 dL_simulate_10 kRL_17 ?_
    exact ce_lret dL_simulate_13 rfl (by decide) (by decide) ⟨rfl, hw.tr ⟨⟨⟨hn, rfl, rfl, rfl, fun _ _ => rfl⟩, k2⟩, b, hX, k1⟩⟩
set_option maxHeartbeats 2000000 in
set_option maxRecDepth 20000 in
theorem h_undo_ok {σ0 σ : ce_S} {g0 g : ce_D} {a : Nat} {S S2 : ks_S} {V : Int32} (hw : kw a S σ0 g0 σ g) (hC : ∀ b, ce_LX σ a b → ce_rX g a b S → ce_CT (ce_r 5) mX7_undo [.ref a] σ g (kl_q σ g a S2 V) ce_no) : ce_CT (ce_rl 0 1) mL_undo [.ref a] σ g (kq σ0 g0 a S2 V.toInt64) ce_no := by
  obtain ⟨b, hX, hr⟩ := hw.o
  refine ce_enterH (by decide) rfl (Nat.le_of_ble_eq_true rfl) (L := [some (.ref a), none]) rfl ?_
  refine ce_aload_n dL_undo_0 rfl ?_
  refine ce_callVX dL_undo_1 hX7_undo kRL_82 (hC b hX hr) rfl rfl hX.1 rfl (by decide) (Nat.le_of_ble_eq_true rfl) (by decide) (by decide) (fun v σ1 g1 h => ?_) (fun E σ1 g1 h => ?_)
  · obtain ⟨rfl, h⟩ := h
    refine ce_i2l (v := V.toInt64) dL_undo_4 rfl ?_
    exact ce_lret dL_undo_5 rfl (by decide) (by decide) ⟨rfl, hw.tr h⟩
  · exact h.elim
set_option maxHeartbeats 2000000 in
set_option maxRecDepth 20000 in
theorem h_undo_n3 {σ0 σ : ce_S} {g0 g : ce_D} {a : Nat} {S : ks_S} (hw : kw a S σ0 g0 σ g) (hC : ∀ b, ce_LX σ a b → ce_rX g a b S → ce_CT (ce_rx 2) mX7_undo [.ref a] σ g (fun _ _ _ => False) (kx_XR 3 σ g a b S)) : ce_CT (ce_rl 0 1) mL_undo [.ref a] σ g (kq σ0 g0 a S (-9000000000000000003 : Int64)) ce_no := by
  obtain ⟨b, hX, hr⟩ := hw.o
  refine ce_enterH (by decide) rfl (Nat.le_of_ble_eq_true rfl) (L := [some (.ref a), none]) rfl ?_
  refine ce_aload_n dL_undo_0 rfl ?_
  refine ce_callVX dL_undo_1 hX7_undo kRL_82 (hC b hX hr) rfl rfl hX.1 rfl (by decide) (Nat.le_of_ble_eq_true rfl) (by decide) (by decide) (fun v σ1 g1 h => ?_) (fun E σ1 g1 h => ?_)
  · exact h.elim
  · obtain ⟨⟨eE, n, hn, rfl⟩, k1, k2⟩ := h
    have eE : E = "java/lang/IllegalStateException" := eE
    subst eE
    refine ce_xcatch (E := "java/lang/IllegalStateException") [] 0 5 [] rfl (by decide) (fun _ hz => by cases hz) ⟨by decide, by decide⟩ (by decide) kRL_19 wc_IllegalStateException (fun q => ?_)
    refine ce_astore_n dL_undo_6 (Nat.le_of_ble_eq_true rfl) rfl ?_
    refine ce_ldc2 dL_undo_7 kRL_21 ?_
    exact ce_lret dL_undo_10 rfl (by decide) (by decide) ⟨rfl, hw.tr ⟨⟨⟨hn, rfl, rfl, rfl, fun _ _ => rfl⟩, k2⟩, b, hX, k1⟩⟩
set_option maxHeartbeats 2000000 in
set_option maxRecDepth 20000 in
theorem h_wine_ok {σ0 σ : ce_S} {g0 g : ce_D} {a : Nat} {S S2 : ks_S} {V : Int32} (x0 : Int32) (x1 : Int32) (hw : kw a S σ0 g0 σ g) (hC : ∀ b, ce_LX σ a b → ce_rX g a b S → ce_CT (ce_r 5) mX7_wine [.ref a, .int x0, .int x1] σ g (kl_q σ g a S2 V) ce_no) : ce_CT (ce_rl 0 1) mL_wine [.ref a, .int x0, .int x1] σ g (kq σ0 g0 a S2 V.toInt64) ce_no := by
  obtain ⟨b, hX, hr⟩ := hw.o
  refine ce_enterH (by decide) rfl (Nat.le_of_ble_eq_true rfl) (L := [some (.ref a), some (.int x0), some (.int x1), none]) rfl ?_
  refine ce_aload_n dL_wine_0 rfl ?_
  refine ce_iload_n dL_wine_1 rfl ?_
  refine ce_iload_n dL_wine_2 rfl ?_
  refine ce_callVX dL_wine_3 hX7_wine kRL_38 (hC b hX hr) rfl rfl hX.1 rfl (by decide) (Nat.le_of_ble_eq_true rfl) (by decide) (by decide) (fun v σ1 g1 h => ?_) (fun E σ1 g1 h => ?_)
  · obtain ⟨rfl, h⟩ := h
    refine ce_i2l (v := V.toInt64) dL_wine_6 rfl ?_
    exact ce_lret dL_wine_7 rfl (by decide) (by decide) ⟨rfl, hw.tr h⟩
  · exact h.elim
set_option maxHeartbeats 2000000 in
set_option maxRecDepth 20000 in
theorem h_wine_p {σ0 σ : ce_S} {g0 g : ce_D} {a : Nat} {S : ks_S} {V : Int32} (x0 : Int32) (x1 : Int32) (hw : kw a S σ0 g0 σ g) (hC : ∀ b, ce_LX σ a b → ce_rX g a b S → ce_CT (ce_r 5) mX7_wine [.ref a, .int x0, .int x1] σ g (ce_pv V σ g) ce_no) : ce_CT (ce_rl 0 0) mL_wine [.ref a, .int x0, .int x1] σ g (ce_jv V.toInt64 σ g) ce_no := by
  obtain ⟨b, hX, hr⟩ := hw.o
  refine ce_enterH (by decide) rfl (Nat.le_of_ble_eq_true rfl) (L := [some (.ref a), some (.int x0), some (.int x1), none]) rfl ?_
  refine ce_aload_n dL_wine_0 rfl ?_
  refine ce_iload_n dL_wine_1 rfl ?_
  refine ce_iload_n dL_wine_2 rfl ?_
  refine ce_callVX dL_wine_3 hX7_wine kRL_38 (hC b hX hr) rfl rfl hX.1 rfl (by decide) (Nat.le_of_ble_eq_true rfl) (by decide) (by decide) (fun v σ1 g1 h => ?_) (fun E σ1 g1 h => ?_)
  · obtain ⟨rfl, rfl, rfl⟩ := h
    refine ce_i2l (v := V.toInt64) dL_wine_6 rfl ?_
    exact ce_lret dL_wine_7 rfl (by decide) (by decide) ⟨rfl, rfl, rfl⟩
  · exact h.elim
set_option maxHeartbeats 2000000 in
set_option maxRecDepth 20000 in
theorem h_wine_n1 {σ0 σ : ce_S} {g0 g : ce_D} {a : Nat} {S : ks_S} (x0 : Int32) (x1 : Int32) (hw : kw a S σ0 g0 σ g) (hC : ∀ b, ce_LX σ a b → ce_rX g a b S → ce_CT (ce_rx 2) mX7_wine [.ref a, .int x0, .int x1] σ g (fun _ _ _ => False) (kx_XR 1 σ g a b S)) : ce_CT (ce_rl 0 1) mL_wine [.ref a, .int x0, .int x1] σ g (kq σ0 g0 a S (-9000000000000000001 : Int64)) ce_no := by
  obtain ⟨b, hX, hr⟩ := hw.o
  refine ce_enterH (by decide) rfl (Nat.le_of_ble_eq_true rfl) (L := [some (.ref a), some (.int x0), some (.int x1), none]) rfl ?_
  refine ce_aload_n dL_wine_0 rfl ?_
  refine ce_iload_n dL_wine_1 rfl ?_
  refine ce_iload_n dL_wine_2 rfl ?_
  refine ce_callVX dL_wine_3 hX7_wine kRL_38 (hC b hX hr) rfl rfl hX.1 rfl (by decide) (Nat.le_of_ble_eq_true rfl) (by decide) (by decide) (fun v σ1 g1 h => ?_) (fun E σ1 g1 h => ?_)
  · exact h.elim
  · obtain ⟨⟨eE, n, hn, rfl⟩, k1, k2⟩ := h
    have eE : E = "java/lang/IndexOutOfBoundsException" := eE
    subst eE
    refine ce_xcatch (E := "java/lang/IndexOutOfBoundsException") [] 0 7 [(0, 7, 13, 15)] rfl (by decide) (fun _ hz => by cases hz) ⟨by decide, by decide⟩ (by decide) kRL_34 wc_IndexOutOfBoundsException (fun q => ?_)
    refine ce_astore_n dL_wine_8 (Nat.le_of_ble_eq_true rfl) rfl ?_
    refine ce_ldc2 dL_wine_9 kRL_36 ?_
    exact ce_lret dL_wine_12 rfl (by decide) (by decide) ⟨rfl, hw.tr ⟨⟨⟨hn, rfl, rfl, rfl, fun _ _ => rfl⟩, k2⟩, b, hX, k1⟩⟩
set_option maxHeartbeats 2000000 in
set_option maxRecDepth 20000 in
theorem h_wine_n2 {σ0 σ : ce_S} {g0 g : ce_D} {a : Nat} {S : ks_S} (x0 : Int32) (x1 : Int32) (hw : kw a S σ0 g0 σ g) (hC : ∀ b, ce_LX σ a b → ce_rX g a b S → ce_CT (ce_rx 2) mX7_wine [.ref a, .int x0, .int x1] σ g (fun _ _ _ => False) (kx_XR 2 σ g a b S)) : ce_CT (ce_rl 0 1) mL_wine [.ref a, .int x0, .int x1] σ g (kq σ0 g0 a S (-9000000000000000002 : Int64)) ce_no := by
  obtain ⟨b, hX, hr⟩ := hw.o
  refine ce_enterH (by decide) rfl (Nat.le_of_ble_eq_true rfl) (L := [some (.ref a), some (.int x0), some (.int x1), none]) rfl ?_
  refine ce_aload_n dL_wine_0 rfl ?_
  refine ce_iload_n dL_wine_1 rfl ?_
  refine ce_iload_n dL_wine_2 rfl ?_
  refine ce_callVX dL_wine_3 hX7_wine kRL_38 (hC b hX hr) rfl rfl hX.1 rfl (by decide) (Nat.le_of_ble_eq_true rfl) (by decide) (by decide) (fun v σ1 g1 h => ?_) (fun E σ1 g1 h => ?_)
  · exact h.elim
  · obtain ⟨⟨eE, n, hn, rfl⟩, k1, k2⟩ := h
    have eE : E = "java/lang/IllegalArgumentException" := eE
    subst eE
    refine ce_xcatch (E := "java/lang/IllegalArgumentException") [(0, 7, 8, 34)] 0 7 [] rfl (by decide) (fun z hz => by
        have hz : z = (0, 7, 8, 34) := by simpa using hz
        rcases hz with rfl
        · exact ⟨by decide, "java/lang/IndexOutOfBoundsException", by decide, by decide, kRL_34⟩) ⟨by decide, by decide⟩ (by decide) kRL_15 wc_IllegalArgumentException (fun q => ?_)
    refine ce_astore_n dL_wine_13 (Nat.le_of_ble_eq_true rfl) rfl ?_
    refine ce_ldc2 dL_wine_14 kRL_17 ?_
    exact ce_lret dL_wine_17 rfl (by decide) (by decide) ⟨rfl, hw.tr ⟨⟨⟨hn, rfl, rfl, rfl, fun _ _ => rfl⟩, k2⟩, b, hX, k1⟩⟩
set_option maxHeartbeats 2000000 in
set_option maxRecDepth 20000 in
theorem h_wouldGet_ok {σ0 σ : ce_S} {g0 g : ce_D} {a : Nat} {S S2 : ks_S} {V : Int32} (x0 : Int32) (x1 : Int32) (hw : kw a S σ0 g0 σ g) (hC : ∀ b, ce_LX σ a b → ce_rX g a b S → ce_CT (ce_r 5) mX7_wouldGet [.ref a, .int x0, .int x1] σ g (kl_q σ g a S2 V) ce_no) : ce_CT (ce_rl 0 1) mL_wouldGet [.ref a, .int x0, .int x1] σ g (kq σ0 g0 a S2 V.toInt64) ce_no := by
  obtain ⟨b, hX, hr⟩ := hw.o
  refine ce_enterH (by decide) rfl (Nat.le_of_ble_eq_true rfl) (L := [some (.ref a), some (.int x0), some (.int x1), none]) rfl ?_
  refine ce_aload_n dL_wouldGet_0 rfl ?_
  refine ce_iload_n dL_wouldGet_1 rfl ?_
  refine ce_iload_n dL_wouldGet_2 rfl ?_
  refine ce_callVX dL_wouldGet_3 hX7_wouldGet kRL_85 (hC b hX hr) rfl rfl hX.1 rfl (by decide) (Nat.le_of_ble_eq_true rfl) (by decide) (by decide) (fun v σ1 g1 h => ?_) (fun E σ1 g1 h => ?_)
  · obtain ⟨rfl, h⟩ := h
    refine ce_i2l (v := V.toInt64) dL_wouldGet_6 rfl ?_
    exact ce_lret dL_wouldGet_7 rfl (by decide) (by decide) ⟨rfl, hw.tr h⟩
  · exact h.elim
set_option maxHeartbeats 2000000 in
set_option maxRecDepth 20000 in
theorem h_wouldGet_p {σ0 σ : ce_S} {g0 g : ce_D} {a : Nat} {S : ks_S} {V : Int32} (x0 : Int32) (x1 : Int32) (hw : kw a S σ0 g0 σ g) (hC : ∀ b, ce_LX σ a b → ce_rX g a b S → ce_CT (ce_r 5) mX7_wouldGet [.ref a, .int x0, .int x1] σ g (ce_pv V σ g) ce_no) : ce_CT (ce_rl 0 0) mL_wouldGet [.ref a, .int x0, .int x1] σ g (ce_jv V.toInt64 σ g) ce_no := by
  obtain ⟨b, hX, hr⟩ := hw.o
  refine ce_enterH (by decide) rfl (Nat.le_of_ble_eq_true rfl) (L := [some (.ref a), some (.int x0), some (.int x1), none]) rfl ?_
  refine ce_aload_n dL_wouldGet_0 rfl ?_
  refine ce_iload_n dL_wouldGet_1 rfl ?_
  refine ce_iload_n dL_wouldGet_2 rfl ?_
  refine ce_callVX dL_wouldGet_3 hX7_wouldGet kRL_85 (hC b hX hr) rfl rfl hX.1 rfl (by decide) (Nat.le_of_ble_eq_true rfl) (by decide) (by decide) (fun v σ1 g1 h => ?_) (fun E σ1 g1 h => ?_)
  · obtain ⟨rfl, rfl, rfl⟩ := h
    refine ce_i2l (v := V.toInt64) dL_wouldGet_6 rfl ?_
    exact ce_lret dL_wouldGet_7 rfl (by decide) (by decide) ⟨rfl, rfl, rfl⟩
  · exact h.elim
set_option maxHeartbeats 2000000 in
set_option maxRecDepth 20000 in
theorem h_wouldGet_n1 {σ0 σ : ce_S} {g0 g : ce_D} {a : Nat} {S : ks_S} (x0 : Int32) (x1 : Int32) (hw : kw a S σ0 g0 σ g) (hC : ∀ b, ce_LX σ a b → ce_rX g a b S → ce_CT (ce_rx 2) mX7_wouldGet [.ref a, .int x0, .int x1] σ g (fun _ _ _ => False) (kx_XR 1 σ g a b S)) : ce_CT (ce_rl 0 1) mL_wouldGet [.ref a, .int x0, .int x1] σ g (kq σ0 g0 a S (-9000000000000000001 : Int64)) ce_no := by
  obtain ⟨b, hX, hr⟩ := hw.o
  refine ce_enterH (by decide) rfl (Nat.le_of_ble_eq_true rfl) (L := [some (.ref a), some (.int x0), some (.int x1), none]) rfl ?_
  refine ce_aload_n dL_wouldGet_0 rfl ?_
  refine ce_iload_n dL_wouldGet_1 rfl ?_
  refine ce_iload_n dL_wouldGet_2 rfl ?_
  refine ce_callVX dL_wouldGet_3 hX7_wouldGet kRL_85 (hC b hX hr) rfl rfl hX.1 rfl (by decide) (Nat.le_of_ble_eq_true rfl) (by decide) (by decide) (fun v σ1 g1 h => ?_) (fun E σ1 g1 h => ?_)
  · exact h.elim
  · obtain ⟨⟨eE, n, hn, rfl⟩, k1, k2⟩ := h
    have eE : E = "java/lang/IndexOutOfBoundsException" := eE
    subst eE
    refine ce_xcatch (E := "java/lang/IndexOutOfBoundsException") [] 0 7 [] rfl (by decide) (fun _ hz => by cases hz) ⟨by decide, by decide⟩ (by decide) kRL_34 wc_IndexOutOfBoundsException (fun q => ?_)
    refine ce_astore_n dL_wouldGet_8 (Nat.le_of_ble_eq_true rfl) rfl ?_
    refine ce_ldc2 dL_wouldGet_9 kRL_36 ?_
    exact ce_lret dL_wouldGet_12 rfl (by decide) (by decide) ⟨rfl, hw.tr ⟨⟨⟨hn, rfl, rfl, rfl, fun _ _ => rfl⟩, k2⟩, b, hX, k1⟩⟩
