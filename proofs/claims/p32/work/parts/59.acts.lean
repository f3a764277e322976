theorem iv_ord {S : ks_S} (iv : kl_iv S) {m w n : Nat} (hm : m < sK S 0 0) (hw6 : w < sK S 0 1) (hn : n ≤ 60) (h5 : sK S 5 w = 0) : kl_iv (ks_act S (kv_ord (sK S) m w n) (sO S)) := by
  have b9 := iv.ok.1.b
  exact iv_act iv (cl_ord iv.ok.1 hm hw6 hn) (oz_same iv.oz.1 (Nat.le_of_eq (by unfold kv_ord; rw [kv_up_ne (by decide)]))) (kj_ord iv.kj.1 (by omega) h5)
set_option maxHeartbeats 2000000 in
set_option maxRecDepth 20000 in
theorem q_ord {a : Nat} {S : ks_S} {σ0 σ : ce_S} {g0 g : ce_D} (hw : kw a S σ0 g0 σ g) (iv : kl_iv S) {m w n : Nat} (hm : m < sK S 0 0) (hw6 : w < sK S 0 1) (hn : n ≤ 60) (h5 : sK S 5 w = 0) : ce_CT (ce_rl 0 1) mL_order [.ref a, .int (nI m), .int (nI w), .int (nI n)] σ g (kq σ0 g0 a (ks_act S (kv_ord (sK S) m w n) (sO S)) (lN (sK S 7 (m * 6 + w)))) ce_no := by
  have b9 := iv.ok.1.b
  have hb : sK S 7 (m * 6 + w) ≤ 100000 := by
    have := iv.ok.1.od (m * 6 + w); omega
  have h := h_order_ok (nI m) (nI w) (nI n) hw (fun b hX hr => kl_of_t (m_X7_order_ok a b S hX hr iv.ok m w n (by unfold kv_ordF; simp (disch := omega) only [ce_n, ce_in, nI_toInt, Int.toNat_natCast, true_or, ↓reduceIte]; (repeat' split) <;> first | rfl | omega) (by omega) (by omega)))
  rw [nI_l (by omega)] at h
  exact h
theorem iv_all {S : ks_S} (iv : kl_iv S) {w : Nat} (hw6 : w < sK S 0 1) (h5 : sK S 5 w = 0) : kl_iv (ks_act S (kv_all (sK S) w) (ko_all (sK S) w (sO S))) := by
  have b9 := iv.ok.1.b
  exact iv_act iv (cl_all iv.ok.1 hw6 h5) (oz_all iv.oz.1) (kj_all iv.kj.1 iv.ok.1 (by omega) h5)
set_option maxHeartbeats 2000000 in
set_option maxRecDepth 20000 in
theorem q_all {a : Nat} {S : ks_S} {σ0 σ : ce_S} {g0 g : ce_D} (hw : kw a S σ0 g0 σ g) (iv : kl_iv S) {w : Nat} (hw6 : w < sK S 0 1) (h5 : sK S 5 w = 0) : ce_CT (ce_rl 0 1) mL_allocate [.ref a, .int (nI w)] σ g (kq σ0 g0 a (ks_act S (kv_all (sK S) w) (ko_all (sK S) w (sO S))) (lN (kv_sum (kv_all (sK S) w) 8 w))) ce_no := by
  have b9 := iv.ok.1.b
  have hb : kv_sum (kv_all (sK S) w) 8 w ≤ 100000 := by
    have := kv_all_min iv.ok.1 (w := w) (by omega) h5; have := iv.ok.1.bo w (by omega); omega
  have h := h_allocate_ok (nI w) hw (fun b hX hr => kl_of_t (kv_all_sum ▸ m_X7_allocate_ok a b S hX hr iv.ok w (by unfold kv_allF; simp (disch := omega) only [ce_n, ce_in, nI_toInt, Int.toNat_natCast, true_or, ↓reduceIte]; (repeat' split) <;> first | rfl | omega) (by omega)))
  rw [nI_l (by omega)] at h
  exact h
theorem iv_del {S : ks_S} (iv : kl_iv S) {w : Nat} (hw6 : w < sK S 0 1) (h5 : sK S 5 w = 1) (hro : kv_sum (sK S) 8 w ≤ ce_sum (kv_room (sK S) w) (sK S 0 2)) : kl_iv (ks_act S (kv_bri (sK S) w) (ko_bri (sK S) w (sO S))) := by
  have b9 := iv.ok.1.b
  exact iv_act iv (cl_bri iv.ok.1 hw6 h5 hro) (oz_bri iv.oz.1) (kj_bri iv.kj.1 iv.ok.1 (by omega) h5)
set_option maxHeartbeats 2000000 in
set_option maxRecDepth 20000 in
theorem q_del {a : Nat} {S : ks_S} {σ0 σ : ce_S} {g0 g : ce_D} (hw : kw a S σ0 g0 σ g) (iv : kl_iv S) {w : Nat} (hw6 : w < sK S 0 1) (h5 : sK S 5 w = 1) (hro : kv_sum (sK S) 8 w ≤ ce_sum (kv_room (sK S) w) (sK S 0 2)) : ce_CT (ce_rl 0 1) mL_deliver [.ref a, .int (nI w)] σ g (kq σ0 g0 a (ks_act S (kv_bri (sK S) w) (ko_bri (sK S) w (sO S))) (lN (kv_sum (sK S) 8 w))) ce_no := by
  have b9 := iv.ok.1.b
  have hb : kv_sum (sK S) 8 w ≤ 100000 := by
    have := iv.ok.1.bo w (by omega); omega
  have h := h_deliver_ok (nI w) hw (fun b hX hr => kl_of_t (m_X7_deliver_ok a b S hX hr iv.ok w (by unfold kv_delF; simp (disch := omega) only [ce_n, ce_in, nI_toInt, Int.toNat_natCast, true_or, ↓reduceIte]; (repeat' split) <;> first | rfl | omega) (by omega)))
  rw [nI_l (by omega)] at h
  exact h
theorem iv_dri {S : ks_S} (iv : kl_iv S) {m w n : Nat} (hm : m < sK S 0 0) (hw6 : w < sK S 0 1) (hn : 1 ≤ n ∧ n ≤ sK S 9 (m * 6 + w)) : kl_iv (ks_act S (kv_dri (sK S) m w n) (sO S)) := by
  have b9 := iv.ok.1.b
  exact iv_act iv (cl_dri iv.ok.1 hm hw6 hn) (oz_same iv.oz.1 (Nat.le_of_eq (by unfold kv_dri; rw [kv_up_ne (by decide), kv_up_ne (by decide), kv_take_ne (by decide)]))) (kj_dri iv.kj.1)
set_option maxHeartbeats 2000000 in
set_option maxRecDepth 20000 in
theorem q_dri {a : Nat} {S : ks_S} {σ0 σ : ce_S} {g0 g : ce_D} (hw : kw a S σ0 g0 σ g) (iv : kl_iv S) {m w n : Nat} (hm : m < sK S 0 0) (hw6 : w < sK S 0 1) (hn : 1 ≤ n ∧ n ≤ sK S 9 (m * 6 + w)) : ce_CT (ce_rl 0 1) mL_drink [.ref a, .int (nI m), .int (nI w), .int (nI n)] σ g (kq σ0 g0 a (ks_act S (kv_dri (sK S) m w n) (sO S)) (lN (sK S 9 (m * 6 + w) - n))) ce_no := by
  have b9 := iv.ok.1.b
  have hl := iv.ok.1.le (m := m) (w := w) (by omega) (by omega)
  have hb : sK S 9 (m * 6 + w) - n ≤ 100000 := by
    omega
  have h := h_drink_ok (nI m) (nI w) (nI n) hw (fun b hX hr => kl_of_t (m_X7_drink_ok a b S hX hr iv.ok m w n (by unfold kv_driF; simp (disch := omega) only [ce_n, ce_in, nI_toInt, Int.toNat_natCast, true_or, ↓reduceIte]; (repeat' split) <;> first | rfl | omega) (by omega) (by omega) (by omega) (by omega)))
  rw [nI_l (by omega)] at h
  exact h
theorem iv_giv {S : ks_S} (iv : kl_iv S) {m o w n : Nat} (hm : m < sK S 0 0) (ho : o < sK S 0 0) (hw6 : w < sK S 0 1) (hmo : m ≠ o) (hn : 1 ≤ n ∧ n ≤ sK S 9 (m * 6 + w)) : kl_iv (ks_act S (kv_han (sK S) m o w n) (sO S)) := by
  have b9 := iv.ok.1.b
  exact iv_act iv (cl_han iv.ok.1 hm ho hw6 hmo hn) (oz_same iv.oz.1 (Nat.le_of_eq (by unfold kv_han; rw [kv_up_ne (by decide), kv_up_ne (by decide)]))) (kj_han iv.kj.1)
set_option maxHeartbeats 2000000 in
set_option maxRecDepth 20000 in
theorem q_giv {a : Nat} {S : ks_S} {σ0 σ : ce_S} {g0 g : ce_D} (hw : kw a S σ0 g0 σ g) (iv : kl_iv S) {m o w n : Nat} (hm : m < sK S 0 0) (ho : o < sK S 0 0) (hw6 : w < sK S 0 1) (hmo : m ≠ o) (hn : 1 ≤ n ∧ n ≤ sK S 9 (m * 6 + w)) : ce_CT (ce_rl 0 1) mL_give [.ref a, .int (nI m), .int (nI o), .int (nI w), .int (nI n)] σ g (kq σ0 g0 a (ks_act S (kv_han (sK S) m o w n) (sO S)) (lN (sK S 9 (o * 6 + w) + n))) ce_no := by
  have b9 := iv.ok.1.b
  have hl := iv.ok.1.le (m := m) (w := w) (by omega) (by omega)
  have hl2 := iv.ok.1.le (m := o) (w := w) (by omega) (by omega)
  have hb : sK S 9 (o * 6 + w) + n ≤ 100000 := by
    omega
  have h := h_give_ok (nI m) (nI o) (nI w) (nI n) hw (fun b hX hr => kl_of_t (m_X7_give_ok a b S hX hr iv.ok m o w n (by unfold kv_gifF; simp (disch := omega) only [ce_n, ce_in, nI_toInt, Int.toNat_natCast, true_or, ↓reduceIte]; (repeat' split) <;> first | rfl | omega) (by omega) (by omega) (by omega) hmo (by omega)))
  rw [nI_l (by omega)] at h
  exact h
theorem iv_cor {S : ks_S} (iv : kl_iv S) {m w : Nat} (hm : m < sK S 0 0) (hw6 : w < sK S 0 1) (h9 : 0 < sK S 9 (m * 6 + w)) : kl_iv (ks_act S (kv_cor (sK S) m w) (ko_cor (sK S) m w (sO S))) := by
  have b9 := iv.ok.1.b
  exact iv_act iv (cl_cor iv.ok.1 hm hw6 h9) (oz_cor iv.oz.1 hm) (kj_cor iv.kj.1 iv.ok.1 (by omega) (kv_st2 iv.ok.1 (by omega) (by omega) h9))
set_option maxHeartbeats 2000000 in
set_option maxRecDepth 20000 in
theorem q_cor {a : Nat} {S : ks_S} {σ0 σ : ce_S} {g0 g : ce_D} (hw : kw a S σ0 g0 σ g) (iv : kl_iv S) {m w : Nat} (hm : m < sK S 0 0) (hw6 : w < sK S 0 1) (h9 : 0 < sK S 9 (m * 6 + w)) : ce_CT (ce_rl 0 1) mL_cork [.ref a, .int (nI m), .int (nI w)] σ g (kq σ0 g0 a (ks_act S (kv_cor (sK S) m w) (ko_cor (sK S) m w (sO S))) (lN ((if 0 < sK S 4 w then 1 else 0)))) ce_no := by
  have b9 := iv.ok.1.b
  have eV : (if 0 < sK S 4 w then (1 : Int32) else 0) = nI (if 0 < sK S 4 w then 1 else 0) := by split <;> rfl
  have hb : (if 0 < sK S 4 w then 1 else 0) ≤ 100000 := by
    split <;> omega
  have h := h_cork_ok (nI m) (nI w) hw (fun b hX hr => kl_of_t (eV ▸ m_X7_cork_ok a b S hX hr iv.ok m w (by unfold kv_corF; simp (disch := omega) only [ce_n, ce_in, nI_toInt, Int.toNat_natCast, true_or, ↓reduceIte]; (repeat' split) <;> first | rfl | omega) (by omega) (by omega) h9))
  rw [nI_l (by omega)] at h
  exact h
theorem iv_pay {S : ks_S} (iv : kl_iv S) {m : Nat} (hm : m < sK S 0 0) : kl_iv (ks_act S (sK S) (upd (sO S) m 0)) := by
  have b9 := iv.ok.1.b
  exact iv_act iv iv.ok.1 (oz_upd iv.oz.1 rfl hm) (kj_pay iv.kj.1)
set_option maxHeartbeats 2000000 in
set_option maxRecDepth 20000 in
theorem q_pay {a : Nat} {S : ks_S} {σ0 σ : ce_S} {g0 g : ce_D} (hw : kw a S σ0 g0 σ g) (iv : kl_iv S) {m : Nat} (hm : m < sK S 0 0) : ce_CT (ce_rl 0 1) mL_pay [.ref a, .int (nI m)] σ g (kq σ0 g0 a (ks_act S (sK S) (upd (sO S) m 0)) ((sO S m).toInt64)) ce_no := by
  have b9 := iv.ok.1.b
  exact h_pay_ok (nI m) hw (fun b hX hr => kl_of_t (m_X7_pay_ok a b S hX hr iv.ok m hm))
theorem iv_enr {S : ks_S} (iv : kl_iv S) {p : Nat} (hm : sK S 0 0 < 6) (hp : p ≤ 999) : kl_iv (ks_act S (kv_enr (sK S) p) (sO S)) := by
  have b9 := iv.ok.1.b
  exact iv_act iv (cl_enr iv.ok.1 hm hp) (oz_same iv.oz.1 (show sK S 0 0 ≤ sK S 0 0 + 1 by omega)) (kj_enr iv.kj.1)
set_option maxHeartbeats 2000000 in
set_option maxRecDepth 20000 in
theorem q_enr {a : Nat} {S : ks_S} {σ0 σ : ce_S} {g0 g : ce_D} (hw : kw a S σ0 g0 σ g) (iv : kl_iv S) {p : Nat} (hm : sK S 0 0 < 6) (hp : p ≤ 999) : ce_CT (ce_rl 0 1) mL_addMember [.ref a, .int (nI p)] σ g (kq σ0 g0 a (ks_act S (kv_enr (sK S) p) (sO S)) (lN (sK S 0 0))) ce_no := by
  have b9 := iv.ok.1.b
  have hb : sK S 0 0 ≤ 100000 := by
    omega
  have h := h_addMember_ok (nI p) hw (fun b hX hr => kl_of_t (m_X7_addMember_ok a b S hX hr iv.ok p (by unfold kv_memF; simp (disch := omega) only [ce_n, ce_in, nI_toInt, Int.toNat_natCast, true_or, ↓reduceIte]; (repeat' split) <;> first | rfl | omega) hm))
  rw [nI_l (by omega)] at h
  exact h
theorem iv_off {S : ks_S} (iv : kl_iv S) {p n : Nat} (hm : sK S 0 1 < 6) (hp : 1 ≤ p ∧ p ≤ 99) (hn : n ≤ 60) : kl_iv (ks_act S (kv_off (sK S) p n) (sO S)) := by
  have b9 := iv.ok.1.b
  exact iv_act iv (cl_off iv.ok.1 hm hp.2 hn) (oz_same iv.oz.1 (Nat.le_of_eq (show sK S 0 0 = kv_off (sK S) p n 0 0 by unfold kv_off; rw [kv_up_j (by decide), kv_up_ne (by decide), kv_up_ne (by decide), kv_up_ne (by decide)]))) (kj_off iv.kj.1)
set_option maxHeartbeats 2000000 in
set_option maxRecDepth 20000 in
theorem q_off {a : Nat} {S : ks_S} {σ0 σ : ce_S} {g0 g : ce_D} (hw : kw a S σ0 g0 σ g) (iv : kl_iv S) {p n : Nat} (hm : sK S 0 1 < 6) (hp : 1 ≤ p ∧ p ≤ 99) (hn : n ≤ 60) : ce_CT (ce_rl 0 1) mL_addWine [.ref a, .int (nI p), .int (nI n)] σ g (kq σ0 g0 a (ks_act S (kv_off (sK S) p n) (sO S)) (lN (sK S 0 1))) ce_no := by
  have b9 := iv.ok.1.b
  have hb : sK S 0 1 ≤ 100000 := by
    omega
  have h := h_addWine_ok (nI p) (nI n) hw (fun b hX hr => kl_of_t (m_X7_addWine_ok a b S hX hr iv.ok p n (by unfold kv_winF; simp (disch := omega) only [ce_n, ce_in, nI_toInt, Int.toNat_natCast, true_or, ↓reduceIte]; (repeat' split) <;> first | rfl | omega) hm))
  rw [nI_l (by omega)] at h
  exact h
theorem iv_ins {S : ks_S} (iv : kl_iv S) {n : Nat} (hm : sK S 0 2 < 8) (hn : 1 ≤ n ∧ n ≤ 24) : kl_iv (ks_act S (kv_inst (sK S) n) (sO S)) := by
  have b9 := iv.ok.1.b
  exact iv_act iv (cl_inst iv.ok.1 hm hn) (oz_same iv.oz.1 (Nat.le_of_eq (show sK S 0 0 = kv_inst (sK S) n 0 0 from (kv_inst_0 (Or.inr (by decide)) (by decide)).symm))) (kj_inst iv.kj.1)
set_option maxHeartbeats 2000000 in
set_option maxRecDepth 20000 in
theorem q_ins {a : Nat} {S : ks_S} {σ0 σ : ce_S} {g0 g : ce_D} (hw : kw a S σ0 g0 σ g) (iv : kl_iv S) {n : Nat} (hm : sK S 0 2 < 8) (hn : 1 ≤ n ∧ n ≤ 24) : ce_CT (ce_rl 0 1) mL_addBin [.ref a, .int (nI n)] σ g (kq σ0 g0 a (ks_act S (kv_inst (sK S) n) (sO S)) (lN (sK S 0 2))) ce_no := by
  have b9 := iv.ok.1.b
  have hb : sK S 0 2 ≤ 100000 := by
    omega
  have h := h_addBin_ok (nI n) hw (fun b hX hr => kl_of_t (m_X7_addBin_ok a b S hX hr iv.ok n (by unfold kv_binF; simp (disch := omega) only [ce_n, ce_in, nI_toInt, Int.toNat_natCast, true_or, ↓reduceIte]; (repeat' split) <;> first | rfl | omega) hm))
  rw [nI_l (by omega)] at h
  exact h
theorem iv_mov {S : ks_S} (iv : kl_iv S) {x y n : Nat} (hx : x < sK S 0 2) (hy : y < sK S 0 2) (hxy : x ≠ y) (hn : 1 ≤ n ∧ n ≤ sK S 12 x) (hn2 : n ≤ 24) (hbt : sK S 12 y = 0 ∨ sK S 13 y = sK S 13 x) (hr5 : sK S 12 y + n ≤ sK S 11 y) : kl_iv (ks_act S (kv_car (sK S) x y n) (sO S)) := by
  have b9 := iv.ok.1.b
  exact iv_act iv (cl_car iv.ok.1 hx hy hxy (by omega) hbt hr5) (oz_same iv.oz.1 (Nat.le_of_eq (show sK S 0 0 = kv_car (sK S) x y n 0 0 by unfold kv_car; rw [kv_rem_0 (by decide), kv_put_0 (by decide) (by decide)]))) (kj_car iv.kj.1)
set_option maxHeartbeats 2000000 in
set_option maxRecDepth 20000 in
theorem q_mov {a : Nat} {S : ks_S} {σ0 σ : ce_S} {g0 g : ce_D} (hw : kw a S σ0 g0 σ g) (iv : kl_iv S) {x y n : Nat} (hx : x < sK S 0 2) (hy : y < sK S 0 2) (hxy : x ≠ y) (hn : 1 ≤ n ∧ n ≤ sK S 12 x) (hn2 : n ≤ 24) (hbt : sK S 12 y = 0 ∨ sK S 13 y = sK S 13 x) (hr5 : sK S 12 y + n ≤ sK S 11 y) : ce_CT (ce_rl 0 1) mL_move [.ref a, .int (nI x), .int (nI y), .int (nI n)] σ g (kq σ0 g0 a (ks_act S (kv_car (sK S) x y n) (sO S)) (lN (sK S 12 y + n))) ce_no := by
  have b9 := iv.ok.1.b
  have hb : sK S 12 y + n ≤ 100000 := by
    have := iv.ok.1.rk.2.1 y; omega
  have h := h_move_ok (nI x) (nI y) (nI n) hw (fun b hX hr => kl_of_t (m_X7_move_ok a b S hX hr iv.ok x y n (by unfold kv_carF; simp (disch := omega) only [ce_n, ce_in, nI_toInt, Int.toNat_natCast, true_or, ↓reduceIte]; (repeat' split) <;> first | rfl | omega) hx hy hxy (by omega) (by omega)))
  rw [nI_l (by omega)] at h
  exact h
theorem q_undo {a : Nat} {S : ks_S} {σ0 σ : ce_S} {g0 g : ce_D} (hw : kw a S σ0 g0 σ g) (iv : kl_iv S) (hn : 0 < sn S) : ce_CT (ce_rl 0 1) mL_undo [.ref a] σ g (kq σ0 g0 a (ks_undo S) (lN (sn S - 1))) ce_no := by
  have h14 := iv.n
  have h := h_undo_ok hw (fun b hX hr => kl_of_r hX (m_X7_undo_ok a b S hX hr iv.ok hn))
  rw [nI_l (by omega)] at h
  exact h
theorem q_undo0 {a : Nat} {S : ks_S} {σ0 σ : ce_S} {g0 g : ce_D} (hw : kw a S σ0 g0 σ g) (iv : kl_iv S) (hn : sn S = 0) : ce_CT (ce_rl 0 1) mL_undo [.ref a] σ g (kq σ0 g0 a S (-9000000000000000003 : Int64)) ce_no :=
  h_undo_n3 hw (fun b hX hr => kl_of_x hr (m_X7_undo_no a b S hX hr iv.ok hn))
theorem q_save {a : Nat} {S : ks_S} {σ0 σ : ce_S} {g0 g : ce_D} (hw : kw a S σ0 g0 σ g) (iv : kl_iv S) {s9 : Nat} (hs : s9 < 2) : ce_CT (ce_rl 0 1) mL_save [.ref a, .int (nI s9)] σ g (kq σ0 g0 a (ks_save S s9) (lN (ce_sum (sK S 9) 36))) ce_no := by
  have h14 := iv.ok.1.b9
  have h := h_save_ok (nI s9) hw (fun b hX hr => kl_of_r hX (m_X7_save_ok a b S hX hr iv.ok s9 hs))
  rw [nI_l (by omega)] at h
  exact h
theorem q_rest {a : Nat} {S : ks_S} {σ0 σ : ce_S} {g0 g : ce_D} (hw : kw a S σ0 g0 σ g) (iv : kl_iv S) {s9 : Nat} (hs : s9 < 2) (hF : sF S s9 = true) : ce_CT (ce_rl 0 1) mL_restore [.ref a, .int (nI s9)] σ g (kq σ0 g0 a (ks_rest S s9) (lN (ce_sum (sKS S s9 9) 36))) ce_no := by
  have h14 := (iv.ok.2.2.1 s9 hs hF).b9
  have h := h_restore_ok (nI s9) hw (fun b hX hr => kl_of_r hX (m_X7_restore_ok a b S hX hr iv.ok s9 hs hF))
  rw [nI_l (by omega)] at h
  exact h
def kx_si (S : ks_S) (x : Int64) (m : Nat) : Nat := 1000 * ce_sum ((kx_sim m x (sK S)) 9) 36 + kv_emp (kx_sim m x (sK S)) ((kx_sim m x (sK S)) 0 2)
theorem q_sim {a : Nat} {S : ks_S} {σ0 σ : ce_S} {g0 g : ce_D} (hw : kw a S σ0 g0 σ g) (iv : kl_iv S) (x : Int64) {m : Nat} (hm : 1 ≤ m ∧ m ≤ 99) : ce_CT (ce_rl 0 1) mL_simulate [.ref a, .long x, .int (nI m)] σ g (kq σ0 g0 a S (nI (kx_si S x m)).toInt64) ce_no :=
  h_simulate_ok x (nI m) hw (fun b hX hr => kl_of_r hX (m_X7_simulate_ok a b S hX hr iv.ok x m (by omega) (by unfold kx_ran; rw [show (nI 1).toInt = 1 from by decide, show (nI 99).toInt = 99 from by decide]; simp (disch := omega) only [ce_n, ce_in, nI_toInt, Int.toNat_natCast, true_or, ↓reduceIte]; (repeat' split) <;> first | rfl | omega)))
