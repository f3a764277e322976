def kl_m (σ : ce_S) (g : ce_D) (d : Nat) (S2 : ks_S) (R : Nat) (V : Int32) : Option Value → ce_S → ce_D → Prop := ce_rv σ (fun z g1 => (R = 0 → z = V) ∧ g1 d 0 = nI R ∧ ce_rM g1 d S2 ∧ ce_fr d (d + 11) g g1)
def kl_iv (S : ks_S) : Prop := ks_ok S ∧ ks_oz S
/-- both do the same: R is the code, V the answer, S2 what both hold then -/
def kl_both (k : Nat) (Yh Ym : ce_Y) (As : List Value) (S : ks_S) : Prop := ∃ (R : Nat) (V : Int32) (S2 : ks_S), R ≤ 3 ∧ kl_iv S2 ∧
  (∀ (σ : ce_S) (g : ce_D) (a w : Nat) (b : Nat → Nat), ce_LX σ a b → (ce_kd σ w = 14 ∧ ce_ln σ w = 1) → ce_rX g a b S → ce_CT ce_rh Yh (.ref a :: (As ++ [.ref w])) σ g (kl_h σ g a w S2 R V) ce_no) ∧
  ∀ (σ : ce_S) (g : ce_D) (d : Nat), ce_LM σ d → ce_rM g d S → ce_CT (ce_r k) Ym (.ref d :: As) σ g (kl_m σ g d S2 R V) ce_no
theorem kl_m_ok {k d : Nat} {Y : ce_Y} {av : List Value} {σ : ce_S} {g : ce_D} {S2 : ks_S} {V : Int32} (h : ce_CT (ce_r k) Y av σ g (ce_rv σ (fun z9 g1 => z9 = V ∧ g1 d 0 = nI 0 ∧ ce_rM g1 d S2 ∧ ce_fr d (d + 11) g g1)) ce_no) : ce_CT (ce_r k) Y av σ g (kl_m σ g d S2 0 V) ce_no := ce_CTm h (by
  rintro v σ1 g1 ⟨z, rfl, rfl, h1, h2⟩
  exact ⟨z, rfl, rfl, fun _ => h1, h2⟩)
theorem kl_m_no {k d : Nat} {Y : ce_Y} {av : List Value} {σ : ce_S} {g : ce_D} {S2 : ks_S} {V : Int32} (R : Nat) (h0 : R ≠ 0) (h : ce_CT (ce_r k) Y av σ g (ce_rv σ (fun _ g1 => g1 d 0 = nI R ∧ ce_rM g1 d S2 ∧ ce_fr d (d + 11) g g1)) ce_no) : ce_CT (ce_r k) Y av σ g (kl_m σ g d S2 R V) ce_no := ce_CTm h (by
  rintro v σ1 g1 ⟨z, rfl, rfl, h2⟩
  exact ⟨z, rfl, rfl, fun e => absurd e h0, h2⟩)
theorem ce_wi_b {p q : Prop} [Decidable p] [Decidable q] (h : p ↔ q) {x y : Int32} : (if p then x else y) = if q then x else y := by
  by_cases e : p
  · rw [if_pos e, if_pos (h.mp e)]
  · rw [if_neg e, if_neg (fun z => e (h.mpr z))]
set_option maxHeartbeats 2000000 in
set_option maxRecDepth 20000 in
theorem b_addMember {S : ks_S} (iv : kl_iv S) (h14 : sn S ≤ 14) (x : Int32) : kl_both 5 mL_addMember mX8_addMember [.int x] S := by
  obtain ⟨ok, oz⟩ := iv
  obtain ⟨f, hf⟩ : ∃ f, kv_memF (sK S) x = f := ⟨_, rfl⟩
  have h3 : f ≤ 3 := by rw [← hf]; unfold kv_memF; (repeat' split) <;> decide
  have hc : f = 0 ∨ f = 1 ∨ f = 2 ∨ f = 3 := by omega
  rcases hc with rfl | rfl | rfl | rfl
  · have hm : sK S 0 0 < 6 ∧ 0 ≤ x.toInt ∧ x.toInt ≤ 999 := by
      unfold kv_memF at hf; (repeat' split at hf) <;> omega
    obtain ⟨hm, hx⟩ := hm
    obtain ⟨p, hp, hp2, rfl⟩ := ce_ran_ex (lo := 0) (hi := 999) (x := x) ⟨by omega, by omega⟩
    exact ⟨0, (nI (sK S 0 0)), (ks_act S (kv_enr (sK S) p) (sO S)), by decide, ⟨ok.act h14 (cl_enr ok.1 hm hp2), oz_act oz h14 (oz_same oz.1 (show sK S 0 0 ≤ sK S 0 0 + 1 by omega))⟩, fun σ g a w9 b hX hw9 hr => h_addMember_ok (S := S) w9 _ hX hw9 (kl_of_t (m_X7_addMember_ok a b S hX hr ok p hf hm)), fun σ g d hD hr => kl_m_ok (m_X8_addMember_ok d S hD hr ok p hp2 hm hf)⟩
  · exact absurd hf (by unfold kv_memF; (repeat' split) <;> decide)
  · exact ⟨1, 0, S, by decide, ⟨ok, oz⟩, fun σ g a w9 b hX hw9 hr => h_addMember_n2 (S2 := S) w9 _ hX (kl_of_x hr (m_X7_addMember_no a b S hX hr ok x 2 hf (by decide) (by decide))), fun σ g d hD hr => kl_m_no 1 (by decide) (m_X8_addMember_no d S hD hr ok x 2 hf (by decide))⟩
  · exact ⟨2, 0, S, by decide, ⟨ok, oz⟩, fun σ g a w9 b hX hw9 hr => h_addMember_n3 (S2 := S) w9 _ hX (kl_of_x hr (m_X7_addMember_no a b S hX hr ok x 3 hf (by decide) (by decide))), fun σ g d hD hr => kl_m_no 2 (by decide) (m_X8_addMember_no d S hD hr ok x 3 hf (by decide))⟩
set_option maxHeartbeats 2000000 in
set_option maxRecDepth 20000 in
theorem b_addWine {S : ks_S} (iv : kl_iv S) (h14 : sn S ≤ 14) (x : Int32) (y : Int32) : kl_both 5 mL_addWine mX8_addWine [.int x, .int y] S := by
  obtain ⟨ok, oz⟩ := iv
  obtain ⟨f, hf⟩ : ∃ f, kv_winF (sK S) x y = f := ⟨_, rfl⟩
  have h3 : f ≤ 3 := by rw [← hf]; unfold kv_winF; (repeat' split) <;> decide
  have hc : f = 0 ∨ f = 1 ∨ f = 2 ∨ f = 3 := by omega
  rcases hc with rfl | rfl | rfl | rfl
  · have hm : sK S 0 1 < 6 ∧ 1 ≤ x.toInt ∧ x.toInt ≤ 99 ∧ 0 ≤ y.toInt ∧ y.toInt ≤ 60 := by
      unfold kv_winF at hf; (repeat' split at hf) <;> omega
    obtain ⟨hm, hx⟩ := hm
    obtain ⟨p, hp, hp2, rfl⟩ := ce_ran_ex (lo := 1) (hi := 99) (x := x) ⟨by omega, by omega⟩
    obtain ⟨n, hn, hn2, rfl⟩ := ce_ran_ex (lo := 0) (hi := 60) (x := y) ⟨by omega, by omega⟩
    exact ⟨0, (nI (sK S 0 1)), (ks_act S (kv_off (sK S) p n) (sO S)), by decide, ⟨ok.act h14 (cl_off ok.1 hm hp2 hn2), oz_act oz h14 (oz_same oz.1 (Nat.le_of_eq (show kv_off (sK S) p n 0 0 = sK S 0 0 by unfold kv_off; rw [kv_up_j (by decide), kv_up_ne (by decide), kv_up_ne (by decide), kv_up_ne (by decide)]).symm))⟩, fun σ g a w9 b hX hw9 hr => h_addWine_ok (S := S) w9 _ _ hX hw9 (kl_of_t (m_X7_addWine_ok a b S hX hr ok p n hf hm)), fun σ g d hD hr => kl_m_ok (m_X8_addWine_ok d S hD hr ok p n hp2 hn2 hm hf)⟩
  · exact absurd hf (by unfold kv_winF; (repeat' split) <;> decide)
  · exact ⟨1, 0, S, by decide, ⟨ok, oz⟩, fun σ g a w9 b hX hw9 hr => h_addWine_n2 (S2 := S) w9 _ _ hX (kl_of_x hr (m_X7_addWine_no a b S hX hr ok x y 2 hf (by decide) (by decide))), fun σ g d hD hr => kl_m_no 1 (by decide) (m_X8_addWine_no d S hD hr ok x y 2 hf (by decide))⟩
  · exact ⟨2, 0, S, by decide, ⟨ok, oz⟩, fun σ g a w9 b hX hw9 hr => h_addWine_n3 (S2 := S) w9 _ _ hX (kl_of_x hr (m_X7_addWine_no a b S hX hr ok x y 3 hf (by decide) (by decide))), fun σ g d hD hr => kl_m_no 2 (by decide) (m_X8_addWine_no d S hD hr ok x y 3 hf (by decide))⟩
set_option maxHeartbeats 2000000 in
set_option maxRecDepth 20000 in
theorem b_addBin {S : ks_S} (iv : kl_iv S) (h14 : sn S ≤ 14) (x : Int32) : kl_both 5 mL_addBin mX8_addBin [.int x] S := by
  obtain ⟨ok, oz⟩ := iv
  obtain ⟨f, hf⟩ : ∃ f, kv_binF (sK S) x = f := ⟨_, rfl⟩
  have h3 : f ≤ 3 := by rw [← hf]; unfold kv_binF; (repeat' split) <;> decide
  have hc : f = 0 ∨ f = 1 ∨ f = 2 ∨ f = 3 := by omega
  rcases hc with rfl | rfl | rfl | rfl
  · have hm : sK S 0 2 < 8 ∧ 1 ≤ x.toInt ∧ x.toInt ≤ 24 := by
      unfold kv_binF at hf; (repeat' split at hf) <;> omega
    obtain ⟨hm, hx⟩ := hm
    obtain ⟨n, hn, hn2, rfl⟩ := ce_ran_ex (lo := 1) (hi := 24) (x := x) ⟨by omega, by omega⟩
    exact ⟨0, (nI (sK S 0 2)), (ks_act S (kv_inst (sK S) n) (sO S)), by decide, ⟨ok.act h14 (cl_inst ok.1 hm ⟨hn, hn2⟩), oz_act oz h14 (oz_same oz.1 (Nat.le_of_eq (show kv_inst (sK S) n 0 0 = sK S 0 0 by unfold kv_inst; rw [kv_up_j (by decide), kv_up_ne (by decide)]).symm))⟩, fun σ g a w9 b hX hw9 hr => h_addBin_ok (S := S) w9 _ hX hw9 (kl_of_t (m_X7_addBin_ok a b S hX hr ok n hf hm)), fun σ g d hD hr => kl_m_ok (m_X8_addBin_ok d S hD hr ok n hn2 hm hf)⟩
  · exact absurd hf (by unfold kv_binF; (repeat' split) <;> decide)
  · exact ⟨1, 0, S, by decide, ⟨ok, oz⟩, fun σ g a w9 b hX hw9 hr => h_addBin_n2 (S2 := S) w9 _ hX (kl_of_x hr (m_X7_addBin_no a b S hX hr ok x 2 hf (by decide) (by decide))), fun σ g d hD hr => kl_m_no 1 (by decide) (m_X8_addBin_no d S hD hr ok x 2 hf (by decide))⟩
  · exact ⟨2, 0, S, by decide, ⟨ok, oz⟩, fun σ g a w9 b hX hw9 hr => h_addBin_n3 (S2 := S) w9 _ hX (kl_of_x hr (m_X7_addBin_no a b S hX hr ok x 3 hf (by decide) (by decide))), fun σ g d hD hr => kl_m_no 2 (by decide) (m_X8_addBin_no d S hD hr ok x 3 hf (by decide))⟩
set_option maxHeartbeats 2000000 in
set_option maxRecDepth 20000 in
theorem b_order {S : ks_S} (iv : kl_iv S) (h14 : sn S ≤ 14) (x : Int32) (y : Int32) (n : Int32) : kl_both 5 mL_order mX8_order [.int x, .int y, .int n] S := by
  obtain ⟨ok, oz⟩ := iv
  obtain ⟨f, hf⟩ : ∃ f, kv_ordF (sK S) x y n = f := ⟨_, rfl⟩
  have h3 : f ≤ 3 := by rw [← hf]; unfold kv_ordF; (repeat' split) <;> decide
  have hM := ok.1.me
  have hW := ok.1.wi
  have hB := ok.1.i7
  have hc : f = 0 ∨ f = 1 ∨ f = 2 ∨ f = 3 := by omega
  rcases hc with rfl | rfl | rfl | rfl
  · have hin : ce_in x (sK S 0 0) ∧ ce_in y (sK S 0 1) := by
      unfold kv_ordF at hf
      split at hf
      · assumption
      · exact absurd hf (by decide)
    have hn : 0 ≤ n.toInt ∧ n.toInt ≤ 60 := by
      unfold kv_ordF at hf
      rw [if_pos hin] at hf
      (repeat' split at hf) <;> omega
    obtain ⟨q, hq, hq2, rfl⟩ := ce_ran_ex (lo := 0) (hi := 60) (x := n) ⟨by omega, by omega⟩
    obtain ⟨m, hm, rfl⟩ := ce_in_ex hin.1
    obtain ⟨w, hw, rfl⟩ := ce_in_ex hin.2
    have hl := ok.1.le (m := m) (w := w) (by omega) (by omega)
    exact ⟨0, (nI (sK S 7 (m * 6 + w))), (ks_act S (kv_ord (sK S) m w q) (sO S)), by decide, ⟨ok.act h14 (cl_ord ok.1 hm hw hq2), oz_act oz h14 (oz_same oz.1 (Nat.le_of_eq (show kv_ord (sK S) m w q 0 0 = sK S 0 0 by unfold kv_ord; rw [kv_up_ne (by decide)]).symm))⟩, fun σ g a w9 b hX hw9 hr => h_order_ok (S := S) w9 _ _ _ hX hw9 (kl_of_t (m_X7_order_ok a b S hX hr ok m w q hf (by omega) (by omega))), fun σ g d hD hr => kl_m_ok (m_X8_order_ok d S hD hr ok m w q hm hw hq2 hf)⟩
  · exact ⟨1, 0, S, by decide, ⟨ok, oz⟩, fun σ g a w9 b hX hw9 hr => h_order_n1 (S2 := S) w9 _ _ _ hX (kl_of_x hr (m_X7_order_no a b S hX hr ok x y n 1 hf (by decide) (by decide))), fun σ g d hD hr => kl_m_no 1 (by decide) (m_X8_order_no d S hD hr ok x y n 1 hf (by decide))⟩
  · exact ⟨2, 0, S, by decide, ⟨ok, oz⟩, fun σ g a w9 b hX hw9 hr => h_order_n2 (S2 := S) w9 _ _ _ hX (kl_of_x hr (m_X7_order_no a b S hX hr ok x y n 2 hf (by decide) (by decide))), fun σ g d hD hr => kl_m_no 2 (by decide) (m_X8_order_no d S hD hr ok x y n 2 hf (by decide))⟩
  · exact ⟨3, 0, S, by decide, ⟨ok, oz⟩, fun σ g a w9 b hX hw9 hr => h_order_n3 (S2 := S) w9 _ _ _ hX (kl_of_x hr (m_X7_order_no a b S hX hr ok x y n 3 hf (by decide) (by decide))), fun σ g d hD hr => kl_m_no 3 (by decide) (m_X8_order_no d S hD hr ok x y n 3 hf (by decide))⟩
set_option maxHeartbeats 2000000 in
set_option maxRecDepth 20000 in
theorem b_allocate {S : ks_S} (iv : kl_iv S) (h14 : sn S ≤ 14) (y : Int32) : kl_both 5 mL_allocate mX8_allocate [.int y] S := by
  obtain ⟨ok, oz⟩ := iv
  obtain ⟨f, hf⟩ : ∃ f, kv_allF (sK S) y = f := ⟨_, rfl⟩
  have h3 : f ≤ 3 := by rw [← hf]; unfold kv_allF; (repeat' split) <;> decide
  have hM := ok.1.me
  have hW := ok.1.wi
  have hB := ok.1.i7
  have hc : f = 0 ∨ f = 1 ∨ f = 2 ∨ f = 3 := by omega
  rcases hc with rfl | rfl | rfl | rfl
  · have hin : ce_in y (sK S 0 1) := by
      unfold kv_allF at hf
      split at hf
      · assumption
      · exact absurd hf (by decide)
    obtain ⟨w, hw, rfl⟩ := ce_in_ex hin
    have hq := kv_all0 (by omega) hf
    exact ⟨0, (nI (kv_sum (kv_share w 60 (sK S)) 8 w)), (ks_act S (kv_all (sK S) w) (ko_all (sK S) w (sO S))), by decide, ⟨ok.act h14 (cl_all ok.1 hw hq.2), oz_act oz h14 (oz_all oz.1)⟩, fun σ g a w9 b hX hw9 hr => h_allocate_ok (S := S) w9 _ hX hw9 (kl_of_t (m_X7_allocate_ok a b S hX hr ok w hf (by omega))), fun σ g d hD hr => kl_m_ok (m_X8_allocate_ok d S hD hr ok w hw hf)⟩
  · exact ⟨1, 0, S, by decide, ⟨ok, oz⟩, fun σ g a w9 b hX hw9 hr => h_allocate_n1 (S2 := S) w9 _ hX (kl_of_x hr (m_X7_allocate_no a b S hX hr ok y 1 hf (by decide) (by decide))), fun σ g d hD hr => kl_m_no 1 (by decide) (m_X8_allocate_no d S hD hr ok y 1 hf (by decide))⟩
  · exact absurd hf (by unfold kv_allF; (repeat' split) <;> decide)
  · exact ⟨2, 0, S, by decide, ⟨ok, oz⟩, fun σ g a w9 b hX hw9 hr => h_allocate_n3 (S2 := S) w9 _ hX (kl_of_x hr (m_X7_allocate_no a b S hX hr ok y 3 hf (by decide) (by decide))), fun σ g d hD hr => kl_m_no 2 (by decide) (m_X8_allocate_no d S hD hr ok y 3 hf (by decide))⟩
set_option maxHeartbeats 2000000 in
set_option maxRecDepth 20000 in
theorem b_deliver {S : ks_S} (iv : kl_iv S) (h14 : sn S ≤ 14) (y : Int32) : kl_both 5 mL_deliver mX8_deliver [.int y] S := by
  obtain ⟨ok, oz⟩ := iv
  obtain ⟨f, hf⟩ : ∃ f, kv_delF (sK S) y = f := ⟨_, rfl⟩
  have h3 : f ≤ 3 := by rw [← hf]; unfold kv_delF; (repeat' split) <;> decide
  have hM := ok.1.me
  have hW := ok.1.wi
  have hB := ok.1.i7
  have hc : f = 0 ∨ f = 1 ∨ f = 2 ∨ f = 3 := by omega
  rcases hc with rfl | rfl | rfl | rfl
  · have hin : ce_in y (sK S 0 1) := by
      unfold kv_delF at hf
      split at hf
      · assumption
      · exact absurd hf (by decide)
    obtain ⟨w, hw, rfl⟩ := ce_in_ex hin
    have hq := kv_del0 (by omega) hf
    exact ⟨0, (nI (kv_sum (sK S) 8 w)), (ks_act S (kv_bri (sK S) w) (ko_bri (sK S) w (sO S))), by decide, ⟨ok.act h14 (cl_bri ok.1 hw hq.2.1 hq.2.2), oz_act oz h14 (oz_bri oz.1)⟩, fun σ g a w9 b hX hw9 hr => h_deliver_ok (S := S) w9 _ hX hw9 (kl_of_t (m_X7_deliver_ok a b S hX hr ok w hf (by omega))), fun σ g d hD hr => kl_m_ok (m_X8_deliver_ok d S hD hr ok w hw hf)⟩
  · exact ⟨1, 0, S, by decide, ⟨ok, oz⟩, fun σ g a w9 b hX hw9 hr => h_deliver_n1 (S2 := S) w9 _ hX (kl_of_x hr (m_X7_deliver_no a b S hX hr ok y 1 hf (by decide) (by decide))), fun σ g d hD hr => kl_m_no 1 (by decide) (m_X8_deliver_no d S hD hr ok y 1 hf (by decide))⟩
  · exact absurd hf (by unfold kv_delF; (repeat' split) <;> decide)
  · exact ⟨2, 0, S, by decide, ⟨ok, oz⟩, fun σ g a w9 b hX hw9 hr => h_deliver_n3 (S2 := S) w9 _ hX (kl_of_x hr (m_X7_deliver_no a b S hX hr ok y 3 hf (by decide) (by decide))), fun σ g d hD hr => kl_m_no 2 (by decide) (m_X8_deliver_no d S hD hr ok y 3 hf (by decide))⟩
set_option maxHeartbeats 2000000 in
set_option maxRecDepth 20000 in
theorem b_drink {S : ks_S} (iv : kl_iv S) (h14 : sn S ≤ 14) (x : Int32) (y : Int32) (n : Int32) : kl_both 5 mL_drink mX8_drink [.int x, .int y, .int n] S := by
  obtain ⟨ok, oz⟩ := iv
  obtain ⟨f, hf⟩ : ∃ f, kv_driF (sK S) x y n = f := ⟨_, rfl⟩
  have h3 : f ≤ 3 := by rw [← hf]; unfold kv_driF; (repeat' split) <;> decide
  have hM := ok.1.me
  have hW := ok.1.wi
  have hB := ok.1.i7
  have hc : f = 0 ∨ f = 1 ∨ f = 2 ∨ f = 3 := by omega
  rcases hc with rfl | rfl | rfl | rfl
  · have hin : ce_in x (sK S 0 0) ∧ ce_in y (sK S 0 1) := by
      unfold kv_driF at hf
      split at hf
      · assumption
      · exact absurd hf (by decide)
    have hn : 1 ≤ n.toInt ∧ n.toInt ≤ 60 := by
      unfold kv_driF at hf
      rw [if_pos hin] at hf
      (repeat' split at hf) <;> omega
    obtain ⟨q, hq, hq2, rfl⟩ := ce_ran_ex (lo := 1) (hi := 60) (x := n) ⟨by omega, by omega⟩
    obtain ⟨m, hm, rfl⟩ := ce_in_ex hin.1
    obtain ⟨w, hw, rfl⟩ := ce_in_ex hin.2
    have hl := ok.1.le (m := m) (w := w) (by omega) (by omega)
    have hc9 := kv_dri0 (by omega) (by omega) (by omega) hf
    exact ⟨0, (nI (sK S 9 (m * 6 + w) - q)), (ks_act S (kv_dri (sK S) m w q) (sO S)), by decide, ⟨ok.act h14 (cl_dri ok.1 hm hw ⟨hc9.2.2.1, hc9.2.2.2.2⟩), oz_act oz h14 (oz_same oz.1 (Nat.le_of_eq (show kv_dri (sK S) m w q 0 0 = sK S 0 0 by unfold kv_dri; rw [kv_up_ne (by decide), kv_up_ne (by decide), kv_take_ne (by decide)]).symm))⟩, fun σ g a w9 b hX hw9 hr => h_drink_ok (S := S) w9 _ _ _ hX hw9 (kl_of_t (m_X7_drink_ok a b S hX hr ok m w q hf (by omega) (by omega) (by omega) (by omega))), fun σ g d hD hr => kl_m_ok (m_X8_drink_ok d S hD hr ok m w q hm hw hq2 hf)⟩
  · exact ⟨1, 0, S, by decide, ⟨ok, oz⟩, fun σ g a w9 b hX hw9 hr => h_drink_n1 (S2 := S) w9 _ _ _ hX (kl_of_x hr (m_X7_drink_no a b S hX hr ok x y n 1 hf (by decide) (by decide))), fun σ g d hD hr => kl_m_no 1 (by decide) (m_X8_drink_no d S hD hr ok x y n 1 hf (by decide))⟩
  · exact ⟨2, 0, S, by decide, ⟨ok, oz⟩, fun σ g a w9 b hX hw9 hr => h_drink_n2 (S2 := S) w9 _ _ _ hX (kl_of_x hr (m_X7_drink_no a b S hX hr ok x y n 2 hf (by decide) (by decide))), fun σ g d hD hr => kl_m_no 2 (by decide) (m_X8_drink_no d S hD hr ok x y n 2 hf (by decide))⟩
  · exact ⟨3, 0, S, by decide, ⟨ok, oz⟩, fun σ g a w9 b hX hw9 hr => h_drink_n3 (S2 := S) w9 _ _ _ hX (kl_of_x hr (m_X7_drink_no a b S hX hr ok x y n 3 hf (by decide) (by decide))), fun σ g d hD hr => kl_m_no 3 (by decide) (m_X8_drink_no d S hD hr ok x y n 3 hf (by decide))⟩
set_option maxHeartbeats 2000000 in
set_option maxRecDepth 20000 in
theorem b_give {S : ks_S} (iv : kl_iv S) (h14 : sn S ≤ 14) (x : Int32) (z : Int32) (y : Int32) (n : Int32) : kl_both 5 mL_give mX8_give [.int x, .int z, .int y, .int n] S := by
  obtain ⟨ok, oz⟩ := iv
  obtain ⟨f, hf⟩ : ∃ f, kv_gifF (sK S) x z y n = f := ⟨_, rfl⟩
  have h3 : f ≤ 3 := by rw [← hf]; unfold kv_gifF; (repeat' split) <;> decide
  have hM := ok.1.me
  have hW := ok.1.wi
  have hB := ok.1.i7
  have hc : f = 0 ∨ f = 1 ∨ f = 2 ∨ f = 3 := by omega
  rcases hc with rfl | rfl | rfl | rfl
  · have hin : (ce_in x (sK S 0 0) ∧ ce_in y (sK S 0 1)) ∧ ce_in z (sK S 0 0) := by
      unfold kv_gifF at hf
      split at hf
      · assumption
      · exact absurd hf (by decide)
    have hn : 1 ≤ n.toInt ∧ n.toInt ≤ 60 := by
      unfold kv_gifF at hf
      rw [if_pos hin] at hf
      (repeat' split at hf) <;> omega
    obtain ⟨q, hq, hq2, rfl⟩ := ce_ran_ex (lo := 1) (hi := 60) (x := n) ⟨by omega, by omega⟩
    obtain ⟨m, hm, rfl⟩ := ce_in_ex hin.1.1
    obtain ⟨w, hw, rfl⟩ := ce_in_ex hin.1.2
    obtain ⟨o, ho, rfl⟩ := ce_in_ex hin.2
    have hl := ok.1.le (m := m) (w := w) (by omega) (by omega)
    have hc9 := kv_gif0 (by omega) (by omega) (by omega) (by omega) hf
    exact ⟨0, (nI (sK S 9 (o * 6 + w) + q)), (ks_act S (kv_han (sK S) m o w q) (sO S)), by decide, ⟨ok.act h14 (cl_han ok.1 hm ho hw hc9.2.2.2.1 ⟨hc9.2.2.2.2.1, hc9.2.2.2.2.2.2⟩), oz_act oz h14 (oz_same oz.1 (Nat.le_of_eq (show kv_han (sK S) m o w q 0 0 = sK S 0 0 by unfold kv_han; rw [kv_up_ne (by decide), kv_up_ne (by decide)]).symm))⟩, fun σ g a w9 b hX hw9 hr => h_give_ok (S := S) w9 _ _ _ _ hX hw9 (kl_of_t (m_X7_give_ok a b S hX hr ok m o w q hf (by omega) (by omega) (by omega) (by omega) (by omega))), fun σ g d hD hr => kl_m_ok (m_X8_give_ok d S hD hr ok m o w q hm ho hw (by omega) hq2 hf)⟩
  · exact ⟨1, 0, S, by decide, ⟨ok, oz⟩, fun σ g a w9 b hX hw9 hr => h_give_n1 (S2 := S) w9 _ _ _ _ hX (kl_of_x hr (m_X7_give_no a b S hX hr ok x z y n 1 hf (by decide) (by decide))), fun σ g d hD hr => kl_m_no 1 (by decide) (m_X8_give_no d S hD hr ok x z y n 1 hf (by decide))⟩
  · exact ⟨2, 0, S, by decide, ⟨ok, oz⟩, fun σ g a w9 b hX hw9 hr => h_give_n2 (S2 := S) w9 _ _ _ _ hX (kl_of_x hr (m_X7_give_no a b S hX hr ok x z y n 2 hf (by decide) (by decide))), fun σ g d hD hr => kl_m_no 2 (by decide) (m_X8_give_no d S hD hr ok x z y n 2 hf (by decide))⟩
  · exact ⟨3, 0, S, by decide, ⟨ok, oz⟩, fun σ g a w9 b hX hw9 hr => h_give_n3 (S2 := S) w9 _ _ _ _ hX (kl_of_x hr (m_X7_give_no a b S hX hr ok x z y n 3 hf (by decide) (by decide))), fun σ g d hD hr => kl_m_no 3 (by decide) (m_X8_give_no d S hD hr ok x z y n 3 hf (by decide))⟩
set_option maxHeartbeats 2000000 in
set_option maxRecDepth 20000 in
theorem b_cork {S : ks_S} (iv : kl_iv S) (h14 : sn S ≤ 14) (x : Int32) (y : Int32) : kl_both 5 mL_cork mX8_cork [.int x, .int y] S := by
  obtain ⟨ok, oz⟩ := iv
  obtain ⟨f, hf⟩ : ∃ f, kv_corF (sK S) x y = f := ⟨_, rfl⟩
  have h3 : f ≤ 3 := by rw [← hf]; unfold kv_corF; (repeat' split) <;> decide
  have hM := ok.1.me
  have hW := ok.1.wi
  have hB := ok.1.i7
  have hc : f = 0 ∨ f = 1 ∨ f = 2 ∨ f = 3 := by omega
  rcases hc with rfl | rfl | rfl | rfl
  · have hin : ce_in x (sK S 0 0) ∧ ce_in y (sK S 0 1) := by
      unfold kv_corF at hf
      split at hf
      · assumption
      · exact absurd hf (by decide)
    obtain ⟨m, hm, rfl⟩ := ce_in_ex hin.1
    obtain ⟨w, hw, rfl⟩ := ce_in_ex hin.2
    have hl := ok.1.le (m := m) (w := w) (by omega) (by omega)
    have hc9 := kv_cor0 (by omega) (by omega) hf
    have eV : (if 0 < sK S 4 w then (1 : Int32) else 0) = nI (if 0 < sK S 4 w then 1 else 0) := by split <;> rfl
    exact ⟨0, (nI (if 0 < sK S 4 w then 1 else 0)), (ks_act S (kv_cor (sK S) m w) (ko_cor (sK S) m w (sO S))), by decide, ⟨ok.act h14 (cl_cor ok.1 hm hw hc9.2.2), oz_act oz h14 (oz_cor oz.1 hm)⟩, fun σ g a w9 b hX hw9 hr => h_cork_ok (S := S) w9 _ _ hX hw9 (kl_of_t (eV ▸ m_X7_cork_ok a b S hX hr ok m w hf (by omega) (by omega) (by omega))), fun σ g d hD hr => kl_m_ok (m_X8_cork_ok d S hD hr ok m w hm hw hf)⟩
  · exact ⟨1, 0, S, by decide, ⟨ok, oz⟩, fun σ g a w9 b hX hw9 hr => h_cork_n1 (S2 := S) w9 _ _ hX (kl_of_x hr (m_X7_cork_no a b S hX hr ok x y 1 hf (by decide) (by decide))), fun σ g d hD hr => kl_m_no 1 (by decide) (m_X8_cork_no d S hD hr ok x y 1 hf (by decide))⟩
  · exact absurd hf (by unfold kv_corF; (repeat' split) <;> decide)
  · exact ⟨2, 0, S, by decide, ⟨ok, oz⟩, fun σ g a w9 b hX hw9 hr => h_cork_n3 (S2 := S) w9 _ _ hX (kl_of_x hr (m_X7_cork_no a b S hX hr ok x y 3 hf (by decide) (by decide))), fun σ g d hD hr => kl_m_no 2 (by decide) (m_X8_cork_no d S hD hr ok x y 3 hf (by decide))⟩
theorem kv_car_0 {K : ce_V} {p u q : Nat} : kv_car K p u q 0 0 = K 0 0 := by
  unfold kv_car kv_rem kv_put
  simp only [kv_up_ne (show (0 : Nat) ≠ 12 by decide), kv_up_ne (show (0 : Nat) ≠ 13 by decide)]
set_option maxHeartbeats 2000000 in
set_option maxRecDepth 20000 in
theorem b_move {S : ks_S} (iv : kl_iv S) (h14 : sn S ≤ 14) (x : Int32) (y : Int32) (n : Int32) : kl_both 5 mL_move mX8_move [.int x, .int y, .int n] S := by
  obtain ⟨ok, oz⟩ := iv
  obtain ⟨f, hf⟩ : ∃ f, kv_carF (sK S) x y n = f := ⟨_, rfl⟩
  have h3 : f ≤ 3 := by rw [← hf]; unfold kv_carF; (repeat' split) <;> decide
  have hM := ok.1.me
  have hW := ok.1.wi
  have hB := ok.1.i7
  have hc : f = 0 ∨ f = 1 ∨ f = 2 ∨ f = 3 := by omega
  rcases hc with rfl | rfl | rfl | rfl
  · have hin : ce_in x (sK S 0 2) ∧ ce_in y (sK S 0 2) := by
      unfold kv_carF at hf
      split at hf
      · assumption
      · exact absurd hf (by decide)
    have hn : 1 ≤ n.toInt ∧ n.toInt ≤ 24 := by
      unfold kv_carF at hf
      rw [if_pos hin] at hf
      (repeat' split at hf) <;> omega
    obtain ⟨q, hq, hq2, rfl⟩ := ce_ran_ex (lo := 1) (hi := 24) (x := n) ⟨by omega, by omega⟩
    obtain ⟨p, hp, rfl⟩ := ce_in_ex hin.1
    obtain ⟨u, hu, rfl⟩ := ce_in_ex hin.2
    have hc9 := kv_car0 ok.1.rk (by omega) (by omega) (by omega) hf
    exact ⟨0, (nI (sK S 12 u + q)), (ks_act S (kv_car (sK S) p u q) (sO S)), by decide, ⟨ok.act h14 (cl_car ok.1 hp hu hc9.2.2.1 ⟨hc9.2.2.2.1, hc9.2.2.2.2.2.1⟩ hc9.2.2.2.2.2.2.1 hc9.2.2.2.2.2.2.2), oz_act oz h14 (oz_same oz.1 (Nat.le_of_eq (show kv_car (sK S) p u q 0 0 = sK S 0 0 from kv_car_0).symm))⟩, fun σ g a w9 b hX hw9 hr => h_move_ok (S := S) w9 _ _ _ hX hw9 (kl_of_t (m_X7_move_ok a b S hX hr ok p u q hf (by omega) (by omega) (by omega) (by omega) (by omega))), fun σ g d hD hr => kl_m_ok (m_X8_move_ok d S hD hr ok p u q hp hu (by omega) (by omega) hf)⟩
  · exact ⟨1, 0, S, by decide, ⟨ok, oz⟩, fun σ g a w9 b hX hw9 hr => h_move_n1 (S2 := S) w9 _ _ _ hX (kl_of_x hr (m_X7_move_no a b S hX hr ok x y n 1 hf (by decide) (by decide))), fun σ g d hD hr => kl_m_no 1 (by decide) (m_X8_move_no d S hD hr ok x y n 1 hf (by decide))⟩
  · exact ⟨2, 0, S, by decide, ⟨ok, oz⟩, fun σ g a w9 b hX hw9 hr => h_move_n2 (S2 := S) w9 _ _ _ hX (kl_of_x hr (m_X7_move_no a b S hX hr ok x y n 2 hf (by decide) (by decide))), fun σ g d hD hr => kl_m_no 2 (by decide) (m_X8_move_no d S hD hr ok x y n 2 hf (by decide))⟩
  · exact ⟨3, 0, S, by decide, ⟨ok, oz⟩, fun σ g a w9 b hX hw9 hr => h_move_n3 (S2 := S) w9 _ _ _ hX (kl_of_x hr (m_X7_move_no a b S hX hr ok x y n 3 hf (by decide) (by decide))), fun σ g d hD hr => kl_m_no 3 (by decide) (m_X8_move_no d S hD hr ok x y n 3 hf (by decide))⟩
set_option maxHeartbeats 2000000 in
set_option maxRecDepth 20000 in
theorem b_undo {S : ks_S} (iv : kl_iv S) (h14 : sn S ≤ 14) : kl_both 5 mL_undo mX8_undo [] S := by
  obtain ⟨ok, oz⟩ := iv
  by_cases hn : sn S = 0
  · exact ⟨1, 0, S, by decide, ⟨ok, oz⟩, fun σ g a w9 b hX hw9 hr => h_undo_n3 (S2 := S) w9 hX (kl_of_x (f := 3) hr (m_X7_undo_no a b S hX hr ok hn)), fun σ g d hD hr => kl_m_no 1 (by decide) (m_X8_undo_no d S hD hr ok 1 (if_pos hn) (by decide))⟩
  · exact ⟨0, (nI (sn S - 1)), (ks_undo S), by decide, ⟨ok.undo (by omega), oz_undo oz (by omega)⟩, fun σ g a w9 b hX hw9 hr => h_undo_ok (S := S) w9 hX hw9 (kl_of_r hX (m_X7_undo_ok a b S hX hr ok (by omega))), fun σ g d hD hr => kl_m_ok (m_X8_undo_ok d S hD hr ok (by omega))⟩
set_option maxHeartbeats 2000000 in
set_option maxRecDepth 20000 in
theorem b_save {S : ks_S} (iv : kl_iv S) (h14 : sn S ≤ 14) (x : Int32) : kl_both 5 mL_save mX8_save [.int x] S := by
  obtain ⟨ok, oz⟩ := iv
  by_cases hx : ce_in x 2
  · obtain ⟨s, hs, rfl⟩ := ce_in_ex hx
    exact ⟨0, (nI (ce_sum (sK S 9) 36)), (ks_save S s), by decide, ⟨ok.save s, oz_save oz s⟩, fun σ g a w9 b hX hw9 hr => h_save_ok (S := S) w9 _ hX hw9 (kl_of_r hX (m_X7_save_ok a b S hX hr ok s hs)), fun σ g d hD hr => kl_m_ok (m_X8_save_ok d S hD hr ok s hs)⟩
  · exact ⟨1, 0, S, by decide, ⟨ok, oz⟩, fun σ g a w9 b hX hw9 hr => h_save_n1 (S2 := S) w9 _ hX (kl_of_x (f := 1) hr (m_X7_save_no a b S hX hr ok x hx)), fun σ g d hD hr => kl_m_no 1 (by decide) (m_X8_save_no d S hD hr ok x 1 (if_neg hx) (by decide))⟩
set_option maxHeartbeats 2000000 in
set_option maxRecDepth 20000 in
theorem b_restore {S : ks_S} (iv : kl_iv S) (h14 : sn S ≤ 14) (x : Int32) : kl_both 5 mL_restore mX8_restore [.int x] S := by
  obtain ⟨ok, oz⟩ := iv
  by_cases hx : ce_in x 2
  · obtain ⟨s, hs, rfl⟩ := ce_in_ex hx
    have en : ce_n (nI s) = s := by unfold ce_n; rw [nI_toInt (by omega)]; rfl
    by_cases hF : sF S s = true
    · exact ⟨0, (nI (ce_sum (sKS S s 9) 36)), (ks_rest S s), by decide, ⟨ok.rest hs hF, oz_rest oz hs hF⟩, fun σ g a w9 b hX hw9 hr => h_restore_ok (S := S) w9 _ hX hw9 (kl_of_r hX (m_X7_restore_ok a b S hX hr ok s hs hF)), fun σ g d hD hr => kl_m_ok (m_X8_restore_ok d S hD hr ok s hs hF)⟩
    · exact ⟨2, 0, S, by decide, ⟨ok, oz⟩, fun σ g a w9 b hX hw9 hr => h_restore_n3 (S2 := S) w9 _ hX (kl_of_x (f := 3) hr (m_X7_restore_n3 a b S hX hr ok s hs hF)), fun σ g d hD hr => kl_m_no 2 (by decide) (m_X8_restore_no d S hD hr ok (nI s) 2 (by unfold kx_reF; rw [if_pos hx, en, if_neg hF]) (by decide))⟩
  · exact ⟨1, 0, S, by decide, ⟨ok, oz⟩, fun σ g a w9 b hX hw9 hr => h_restore_n1 (S2 := S) w9 _ hX (kl_of_x (f := 1) hr (m_X7_restore_n1 a b S hX hr ok x hx)), fun σ g d hD hr => kl_m_no 1 (by decide) (m_X8_restore_no d S hD hr ok x 1 (if_neg hx) (by decide))⟩
set_option maxHeartbeats 2000000 in
set_option maxRecDepth 20000 in
theorem b_append {S : ks_S} (iv : kl_iv S) (h14 : sn S ≤ 14) (x : Int32) : kl_both 5 mL_append mX8_append [.int x] S := by
  obtain ⟨ok, oz⟩ := iv
  obtain ⟨f, hf⟩ : ∃ f, kx_addF S x = f := ⟨_, rfl⟩
  have h3 : f ≤ 3 := by rw [← hf]; unfold kx_addF; (repeat' split) <;> decide
  have hc : f = 0 ∨ f = 1 ∨ f = 2 ∨ f = 3 := by omega
  rcases hc with rfl | rfl | rfl | rfl
  · have hm : sl S < 120 ∧ 0 ≤ x.toInt ∧ x.toInt ≤ 255 := by
      unfold kx_addF at hf; (repeat' split at hf) <;> omega
    obtain ⟨hm, hx⟩ := hm
    obtain ⟨c, hc, hc2, rfl⟩ := ce_ran_ex (lo := 0) (hi := 255) (x := x) ⟨by omega, by omega⟩
    exact ⟨0, (nI (sl S + 1)), (ks_app S c), by decide, ⟨ok.app (by omega), oz_text oz⟩, fun σ g a w9 b hX hw9 hr => h_append_ok (S := S) w9 _ hX hw9 (kl_of_r hX (m_X7_append_ok a b S hX hr ok c (by omega) hm hf)), fun σ g d hD hr => kl_m_ok (m_X8_append_ok d S hD hr ok c (by omega) hm)⟩
  · exact absurd hf (by unfold kx_addF; (repeat' split) <;> decide)
  · exact ⟨1, 0, S, by decide, ⟨ok, oz⟩, fun σ g a w9 b hX hw9 hr => h_append_n2 (S2 := S) w9 _ hX (kl_of_x hr (m_X7_append_no a b S hX hr ok x 2 hf (by decide) (by decide))), fun σ g d hD hr => kl_m_no 1 (by decide) (m_X8_append_no d S hD hr ok x 2 hf (by decide))⟩
  · exact ⟨2, 0, S, by decide, ⟨ok, oz⟩, fun σ g a w9 b hX hw9 hr => h_append_n3 (S2 := S) w9 _ hX (kl_of_x hr (m_X7_append_no a b S hX hr ok x 3 hf (by decide) (by decide))), fun σ g d hD hr => kl_m_no 2 (by decide) (m_X8_append_no d S hD hr ok x 3 hf (by decide))⟩
set_option maxHeartbeats 2000000 in
set_option maxRecDepth 20000 in
theorem b_load {S : ks_S} (iv : kl_iv S) (h14 : sn S ≤ 14) : kl_both 5 mL_load mX8_load [] S := by
  obtain ⟨ok, oz⟩ := iv
  cases hp : (kx_read (sT S) (sl S)).1 with
  | none =>
    exact ⟨0, (nI ((kx_read (sT S) (sl S)).2 0 0)), (ks_load S (kx_read (sT S) (sl S)).2), by decide, ⟨ok.load kx_read_cl, oz_load _⟩, fun σ g a w9 b hX hw9 hr => h_load_ok (S := S) w9 hX hw9 (kl_of_r hX (m_X7_load_ok a b S hX hr ok hp)), fun σ g d hD hr => kl_m_ok (m_X8_load_ok d S hD hr ok hp)⟩
  | some p =>
    exact ⟨1, 0, S, by decide, ⟨ok, oz⟩, fun σ g a w9 b hX hw9 hr => h_load_n3 (S2 := S) w9 hX (m_X7_load_nx a b S hX hr ok p (by have := kx_read_le hp; have := hr.2.2.2.1; omega) hp), fun σ g d hD hr => kl_m_no 1 (by decide) (m_X8_load_no d S hD hr ok p hp)⟩
set_option maxHeartbeats 2000000 in
set_option maxRecDepth 20000 in
theorem b_pay {S : ks_S} (iv : kl_iv S) (h14 : sn S ≤ 14) (x : Int32) : kl_both 5 mL_pay mX8_pay [.int x] S := by
  obtain ⟨ok, oz⟩ := iv
  by_cases hx : ce_in x (sK S 0 0)
  · obtain ⟨m, hm, rfl⟩ := ce_in_ex hx
    exact ⟨0, (sO S m), (ks_act S (sK S) (upd (sO S) m 0)), by decide, ⟨ok.act h14 ok.1, oz_act oz h14 (oz_upd oz.1 rfl hm)⟩, fun σ g a w9 b hX hw9 hr => h_pay_ok (S := S) w9 _ hX hw9 (kl_of_t (m_X7_pay_ok a b S hX hr ok m hm)), fun σ g d hD hr => kl_m_ok (m_X8_pay_ok d S hD hr ok m hm (if_pos hx))⟩
  · exact ⟨1, 0, S, by decide, ⟨ok, oz⟩, fun σ g a w9 b hX hw9 hr => h_pay_n1 (S2 := S) w9 _ hX (kl_of_x (f := 1) hr (m_X7_pay_no a b S hX hr ok x hx)), fun σ g d hD hr => kl_m_no 1 (by decide) (m_X8_pay_no d S hD hr ok x 1 (if_neg hx) (by decide))⟩
set_option maxHeartbeats 2000000 in
set_option maxRecDepth 20000 in
theorem b_roomFor {S : ks_S} (iv : kl_iv S) (h14 : sn S ≤ 14) (x : Int32) : kl_both 5 mL_roomFor mX8_roomFor [.int x] S := by
  obtain ⟨ok, oz⟩ := iv
  by_cases hx : ce_in x (sK S 0 1)
  · obtain ⟨w, hw, rfl⟩ := ce_in_ex hx
    exact ⟨0, (nI (ce_sum (kv_room (sK S) w) (sK S 0 2))), S, by decide, ⟨ok, oz⟩, fun σ g a w9 b hX hw9 hr => h_roomFor_ok (S := S) w9 _ hX hw9 (kl_of_p hX hr (m_X7_roomFor_ok a b S hX hr ok w hw)), fun σ g d hD hr => kl_m_ok (m_X8_roomFor_ok d S hD hr ok w hw)⟩
  · exact ⟨1, 0, S, by decide, ⟨ok, oz⟩, fun σ g a w9 b hX hw9 hr => h_roomFor_n1 (S2 := S) w9 _ hX (kl_of_x (f := 1) hr (m_X7_roomFor_n1 a b S hX hr ok x hx)), fun σ g d hD hr => kl_m_no 1 (by decide) (m_X8_roomFor_no d S hD hr ok x 1 (if_neg hx) (by decide))⟩
set_option maxHeartbeats 2000000 in
set_option maxRecDepth 20000 in
theorem b_shortest {S : ks_S} (iv : kl_iv S) (h14 : sn S ≤ 14) (x : Int32) : kl_both 5 mL_shortest mX8_shortest [.int x] S := by
  obtain ⟨ok, oz⟩ := iv
  by_cases hx : ce_in x (sK S 0 1)
  · obtain ⟨w, hw, rfl⟩ := ce_in_ex hx
    by_cases h5 : sK S 5 w = 0
    · exact ⟨0, (ce_o (kx_sh (sK S) w (sK S 0 0)).1), S, by decide, ⟨ok, oz⟩, fun σ g a w9 b hX hw9 hr => h_shortest_ok (S := S) w9 _ hX hw9 (kl_of_r hX (m_X7_shortest_ok a b S hX hr ok w hw h5 ((kv_allI (by have := ok.1.wi; omega)).mpr ⟨hw, h5⟩))), fun σ g d hD hr => kl_m_ok (m_X8_shortest_ok d S hD hr ok w hw h5)⟩
    · exact ⟨0, (-99999), S, by decide, ⟨ok, oz⟩, fun σ g a w9 b hX hw9 hr => h_shortest_ok (S := S) w9 _ hX hw9 (kl_of_p hX hr (m_X7_shortest_ok2 a b S hX hr ok w hw h5)), fun σ g d hD hr => kl_m_ok (m_X8_shortest_ok2 d S hD hr ok w hw h5)⟩
  · exact ⟨1, 0, S, by decide, ⟨ok, oz⟩, fun σ g a w9 b hX hw9 hr => h_shortest_n1 (S2 := S) w9 _ hX (kl_of_x (f := 1) hr (m_X7_shortest_no a b S hX hr ok x hx)), fun σ g d hD hr => kl_m_no 1 (by decide) (m_X8_shortest_no d S hD hr ok x 1 (if_neg hx) (by decide))⟩
set_option maxHeartbeats 2000000 in
set_option maxRecDepth 20000 in
theorem b_wouldGet {S : ks_S} (iv : kl_iv S) (h14 : sn S ≤ 14) (x : Int32) (y : Int32) : kl_both 5 mL_wouldGet mX8_wouldGet [.int x, .int y] S := by
  obtain ⟨ok, oz⟩ := iv
  by_cases hx : ce_in x (sK S 0 0) ∧ ce_in y (sK S 0 1)
  · obtain ⟨m, hm, rfl⟩ := ce_in_ex hx.1
    obtain ⟨w, hw, rfl⟩ := ce_in_ex hx.2
    by_cases h5 : sK S 5 w = 0
    · exact ⟨0, (nI (kv_all (sK S) w 8 (m * 6 + w))), S, by decide, ⟨ok, oz⟩, fun σ g a w9 b hX hw9 hr => h_wouldGet_ok (S := S) w9 _ _ hX hw9 (kl_of_r hX (m_X7_wouldGet_ok a b S hX hr ok m w hm hw h5 ((kv_allI (by have := ok.1.wi; omega)).mpr ⟨hw, h5⟩))), fun σ g d hD hr => kl_m_ok (m_X8_wouldGet_ok d S hD hr ok m w hm hw h5)⟩
    · exact ⟨0, (-99999), S, by decide, ⟨ok, oz⟩, fun σ g a w9 b hX hw9 hr => h_wouldGet_ok (S := S) w9 _ _ hX hw9 (kl_of_p hX hr (m_X7_wouldGet_ok2 a b S hX hr ok m w hm hw h5)), fun σ g d hD hr => kl_m_ok (m_X8_wouldGet_ok2 d S hD hr ok m w hm hw h5)⟩
  · exact ⟨1, 0, S, by decide, ⟨ok, oz⟩, fun σ g a w9 b hX hw9 hr => h_wouldGet_n1 (S2 := S) w9 _ _ hX (kl_of_x (f := 1) hr (m_X7_wouldGet_no a b S hX hr ok x y hx)), fun σ g d hD hr => kl_m_no 1 (by decide) (m_X8_wouldGet_no d S hD hr ok x y 1 (if_neg hx) (by decide))⟩
set_option maxHeartbeats 2000000 in
set_option maxRecDepth 20000 in
theorem b_about {S : ks_S} (iv : kl_iv S) (h14 : sn S ≤ 14) (z : Int32) : kl_both 5 mL_about mX8_about [.int z] S := by
  obtain ⟨ok, oz⟩ := iv
  by_cases hz : 0 ≤ z.toInt ∧ z.toInt ≤ 9
  · obtain ⟨k, hk, hk2, rfl⟩ := ce_ran_ex (lo := 0) (hi := 9) (x := z) ⟨by omega, by omega⟩
    have hc : k = 0 ∨ k = 1 ∨ k = 2 ∨ k = 3 ∨ k = 4 ∨ k = 5 ∨ k = 6 ∨ k = 7 ∨ k = 8 ∨ k = 9 := by omega
    rcases hc with rfl | rfl | rfl | rfl | rfl | rfl | rfl | rfl | rfl | rfl
    · exact ⟨0, (nI (sK S 0 0)), S, by decide, ⟨ok, oz⟩, fun σ g a w9 b hX hw9 hr => h_about_ok (S := S) w9 _ hX hw9 (kl_of_p hX hr (m_X7_about_ok0 a b S hX hr ok)), fun σ g d hD hr => kl_m_ok (m_X8_about_ok0 d S hD hr ok oz.1)⟩
    · exact ⟨0, (nI (sK S 0 1)), S, by decide, ⟨ok, oz⟩, fun σ g a w9 b hX hw9 hr => h_about_ok (S := S) w9 _ hX hw9 (kl_of_p hX hr (m_X7_about_ok1 a b S hX hr ok)), fun σ g d hD hr => kl_m_ok (m_X8_about_ok1 d S hD hr ok oz.1)⟩
    · exact ⟨0, (nI (sK S 0 2)), S, by decide, ⟨ok, oz⟩, fun σ g a w9 b hX hw9 hr => h_about_ok (S := S) w9 _ hX hw9 (kl_of_p hX hr (m_X7_about_ok2 a b S hX hr ok)), fun σ g d hD hr => kl_m_ok (m_X8_about_ok2 d S hD hr ok oz.1)⟩
    · exact ⟨0, (nI (ce_sum (sK S 9) 36)), S, by decide, ⟨ok, oz⟩, fun σ g a w9 b hX hw9 hr => h_about_ok (S := S) w9 _ hX hw9 (kl_of_p hX hr (m_X7_about_ok3 a b S hX hr ok)), fun σ g d hD hr => kl_m_ok (m_X8_about_ok3 d S hD hr ok oz.1)⟩
    · exact ⟨0, (nI (ce_sum (sK S 10) 36)), S, by decide, ⟨ok, oz⟩, fun σ g a w9 b hX hw9 hr => h_about_ok (S := S) w9 _ hX hw9 (kl_of_p hX hr (m_X7_about_ok4 a b S hX hr ok)), fun σ g d hD hr => kl_m_ok (m_X8_about_ok4 d S hD hr ok oz.1)⟩
    · exact ⟨0, (nI (ce_sum (sK S 6) 6)), S, by decide, ⟨ok, oz⟩, fun σ g a w9 b hX hw9 hr => h_about_ok (S := S) w9 _ hX hw9 (kl_of_p hX hr (m_X7_about_ok5 a b S hX hr ok)), fun σ g d hD hr => kl_m_ok (m_X8_about_ok5 d S hD hr ok oz.1)⟩
    · exact ⟨0, (nI (ce_sum (sK S 4) 6)), S, by decide, ⟨ok, oz⟩, fun σ g a w9 b hX hw9 hr => h_about_ok (S := S) w9 _ hX hw9 (kl_of_p hX hr (m_X7_about_ok6 a b S hX hr ok)), fun σ g d hD hr => kl_m_ok (m_X8_about_ok6 d S hD hr ok oz.1)⟩
    · exact ⟨0, (ce_isum (sO S) 6), S, by decide, ⟨ok, oz⟩, fun σ g a w9 b hX hw9 hr => h_about_ok (S := S) w9 _ hX hw9 (kl_of_p hX hr (m_X7_about_ok7 a b S hX hr ok)), fun σ g d hD hr => kl_m_ok (m_X8_about_ok7 d S hD hr ok oz.1)⟩
    · exact ⟨0, (nI (kv_emp (sK S) (sK S 0 2))), S, by decide, ⟨ok, oz⟩, fun σ g a w9 b hX hw9 hr => h_about_ok (S := S) w9 _ hX hw9 (kl_of_p hX hr (m_X7_about_ok8 a b S hX hr ok)), fun σ g d hD hr => kl_m_ok (m_X8_about_ok8 d S hD hr ok oz.1)⟩
    · exact ⟨0, (nI (ce_sum (fun b => (sK S) 11 b - (sK S) 12 b) (sK S 0 2))), S, by decide, ⟨ok, oz⟩, fun σ g a w9 b hX hw9 hr => h_about_ok (S := S) w9 _ hX hw9 (kl_of_p hX hr (m_X7_about_ok9 a b S hX hr ok)), fun σ g d hD hr => kl_m_ok (m_X8_about_ok9 d S hD hr ok oz.1)⟩
  · exact ⟨1, 0, S, by decide, ⟨ok, oz⟩, fun σ g a w9 b hX hw9 hr => h_about_n2 (S2 := S) w9 _ hX (kl_of_x (f := 2) hr (m_X7_about_n2 a b S hX hr ok z 2 (by unfold kx_ran; exact if_pos (show z.toInt < 0 ∨ 9 < z.toInt by omega)) (by decide) (by decide))), fun σ g d hD hr => kl_m_no 1 (by decide) (m_X8_about_no d S hD hr ok z 2 (by exact (by unfold kx_ran; exact if_pos (show z.toInt < 0 ∨ 9 < z.toInt by omega))) (by decide))⟩
set_option maxHeartbeats 2000000 in
set_option maxRecDepth 20000 in
theorem b_member {S : ks_S} (iv : kl_iv S) (h14 : sn S ≤ 14) (x : Int32) (z : Int32) : kl_both 5 mL_member mX8_member [.int x, .int z] S := by
  obtain ⟨ok, oz⟩ := iv
  by_cases hx : ce_in x (sK S 0 0)
  · by_cases hz : 0 ≤ z.toInt ∧ z.toInt ≤ 3
    · obtain ⟨k, hk, hk2, rfl⟩ := ce_ran_ex (lo := 0) (hi := 3) (x := z) ⟨by omega, by omega⟩
      obtain ⟨m, hm, rfl⟩ := ce_in_ex hx
      have hc : k = 0 ∨ k = 1 ∨ k = 2 ∨ k = 3 := by omega
      rcases hc with rfl | rfl | rfl | rfl
      · exact ⟨0, (nI (sK S 1 m)), S, by decide, ⟨ok, oz⟩, fun σ g a w9 b hX hw9 hr => h_member_ok (S := S) w9 _ _ hX hw9 (kl_of_p hX hr (m_X7_member_ok0 a b S hX hr ok m hm)), fun σ g d hD hr => kl_m_ok (m_X8_member_ok0 d S hD hr ok m hm)⟩
      · exact ⟨0, (sO S m), S, by decide, ⟨ok, oz⟩, fun σ g a w9 b hX hw9 hr => h_member_ok (S := S) w9 _ _ hX hw9 (kl_of_p hX hr (m_X7_member_ok1 a b S hX hr ok m hm)), fun σ g d hD hr => kl_m_ok (m_X8_member_ok1 d S hD hr ok m hm)⟩
      · exact ⟨0, (nI (ce_sum (fun w => sK S 9 (m * 6 + w)) 6)), S, by decide, ⟨ok, oz⟩, fun σ g a w9 b hX hw9 hr => h_member_ok (S := S) w9 _ _ hX hw9 (kl_of_p hX hr (m_X7_member_ok2 a b S hX hr ok m hm)), fun σ g d hD hr => kl_m_ok (m_X8_member_ok2 d S hD hr ok m hm)⟩
      · exact ⟨0, (nI (ce_sum (fun w => sK S 10 (m * 6 + w)) 6)), S, by decide, ⟨ok, oz⟩, fun σ g a w9 b hX hw9 hr => h_member_ok (S := S) w9 _ _ hX hw9 (kl_of_p hX hr (m_X7_member_ok3 a b S hX hr ok m hm)), fun σ g d hD hr => kl_m_ok (m_X8_member_ok3 d S hD hr ok m hm)⟩
    · exact ⟨2, 0, S, by decide, ⟨ok, oz⟩, fun σ g a w9 b hX hw9 hr => h_member_n2 (S2 := S) w9 _ _ hX (kl_of_x (f := 2) hr (m_X7_member_n2 a b S hX hr ok x z hx 2 (by unfold kx_ran; exact if_pos (show z.toInt < 0 ∨ 3 < z.toInt by omega)) (by decide) (by decide))), fun σ g d hD hr => kl_m_no 2 (by decide) (m_X8_member_no d S hD hr ok x z 2 (by unfold kx_memG; rw [if_pos hx]; exact (by unfold kx_ran; exact if_pos (show z.toInt < 0 ∨ 3 < z.toInt by omega))) (by decide))⟩
  · exact ⟨1, 0, S, by decide, ⟨ok, oz⟩, fun σ g a w9 b hX hw9 hr => h_member_n1 (S2 := S) w9 _ _ hX (kl_of_x (f := 1) hr (m_X7_member_n1 a b S hX hr ok x z hx)), fun σ g d hD hr => kl_m_no 1 (by decide) (m_X8_member_no d S hD hr ok x z 1 (if_neg hx) (by decide))⟩
set_option maxHeartbeats 2000000 in
set_option maxRecDepth 20000 in
theorem b_wine {S : ks_S} (iv : kl_iv S) (h14 : sn S ≤ 14) (x : Int32) (z : Int32) : kl_both 5 mL_wine mX8_wine [.int x, .int z] S := by
  obtain ⟨ok, oz⟩ := iv
  by_cases hx : ce_in x (sK S 0 1)
  · by_cases hz : 0 ≤ z.toInt ∧ z.toInt ≤ 8
    · obtain ⟨k, hk, hk2, rfl⟩ := ce_ran_ex (lo := 0) (hi := 8) (x := z) ⟨by omega, by omega⟩
      obtain ⟨w, hw, rfl⟩ := ce_in_ex hx
      have hc : k = 0 ∨ k = 1 ∨ k = 2 ∨ k = 3 ∨ k = 4 ∨ k = 5 ∨ k = 6 ∨ k = 7 ∨ k = 8 := by omega
      rcases hc with rfl | rfl | rfl | rfl | rfl | rfl | rfl | rfl | rfl
      · exact ⟨0, (nI (sK S 2 w)), S, by decide, ⟨ok, oz⟩, fun σ g a w9 b hX hw9 hr => h_wine_ok (S := S) w9 _ _ hX hw9 (kl_of_p hX hr (m_X7_wine_ok0 a b S hX hr ok w hw)), fun σ g d hD hr => kl_m_ok (m_X8_wine_ok0 d S hD hr ok w hw)⟩
      · exact ⟨0, (nI (sK S 3 w)), S, by decide, ⟨ok, oz⟩, fun σ g a w9 b hX hw9 hr => h_wine_ok (S := S) w9 _ _ hX hw9 (kl_of_p hX hr (m_X7_wine_ok1 a b S hX hr ok w hw)), fun σ g d hD hr => kl_m_ok (m_X8_wine_ok1 d S hD hr ok w hw)⟩
      · exact ⟨0, (nI (sK S 4 w)), S, by decide, ⟨ok, oz⟩, fun σ g a w9 b hX hw9 hr => h_wine_ok (S := S) w9 _ _ hX hw9 (kl_of_p hX hr (m_X7_wine_ok2 a b S hX hr ok w hw)), fun σ g d hD hr => kl_m_ok (m_X8_wine_ok2 d S hD hr ok w hw)⟩
      · exact ⟨0, (nI (sK S 5 w)), S, by decide, ⟨ok, oz⟩, fun σ g a w9 b hX hw9 hr => h_wine_ok (S := S) w9 _ _ hX hw9 (kl_of_p hX hr (m_X7_wine_ok3 a b S hX hr ok w hw)), fun σ g d hD hr => kl_m_ok (m_X8_wine_ok3 d S hD hr ok w hw)⟩
      · exact ⟨0, (nI (kv_sum (sK S) 9 w)), S, by decide, ⟨ok, oz⟩, fun σ g a w9 b hX hw9 hr => h_wine_ok (S := S) w9 _ _ hX hw9 (kl_of_p hX hr (m_X7_wine_ok4 a b S hX hr ok w hw)), fun σ g d hD hr => kl_m_ok (m_X8_wine_ok4 d S hD hr ok w hw)⟩
      · exact ⟨0, (nI (kv_sum (sK S) 10 w)), S, by decide, ⟨ok, oz⟩, fun σ g a w9 b hX hw9 hr => h_wine_ok (S := S) w9 _ _ hX hw9 (kl_of_p hX hr (m_X7_wine_ok5 a b S hX hr ok w hw)), fun σ g d hD hr => kl_m_ok (m_X8_wine_ok5 d S hD hr ok w hw)⟩
      · exact ⟨0, (nI (sK S 6 w)), S, by decide, ⟨ok, oz⟩, fun σ g a w9 b hX hw9 hr => h_wine_ok (S := S) w9 _ _ hX hw9 (kl_of_p hX hr (m_X7_wine_ok6 a b S hX hr ok w hw)), fun σ g d hD hr => kl_m_ok (m_X8_wine_ok6 d S hD hr ok w hw)⟩
      · exact ⟨0, (nI (kv_sum (sK S) 8 w)), S, by decide, ⟨ok, oz⟩, fun σ g a w9 b hX hw9 hr => h_wine_ok (S := S) w9 _ _ hX hw9 (kl_of_p hX hr (m_X7_wine_ok7 a b S hX hr ok w hw)), fun σ g d hD hr => kl_m_ok (m_X8_wine_ok7 d S hD hr ok w hw)⟩
      · exact ⟨0, (nI (kv_sum (sK S) 7 w)), S, by decide, ⟨ok, oz⟩, fun σ g a w9 b hX hw9 hr => h_wine_ok (S := S) w9 _ _ hX hw9 (kl_of_p hX hr (m_X7_wine_ok8 a b S hX hr ok w hw)), fun σ g d hD hr => kl_m_ok (m_X8_wine_ok8 d S hD hr ok w hw)⟩
    · exact ⟨2, 0, S, by decide, ⟨ok, oz⟩, fun σ g a w9 b hX hw9 hr => h_wine_n2 (S2 := S) w9 _ _ hX (kl_of_x (f := 2) hr (m_X7_wine_n2 a b S hX hr ok x z hx 2 (by unfold kx_ran; exact if_pos (show z.toInt < 0 ∨ 8 < z.toInt by omega)) (by decide) (by decide))), fun σ g d hD hr => kl_m_no 2 (by decide) (m_X8_wine_no d S hD hr ok x z 2 (by unfold kx_winG; rw [if_pos hx]; exact (by unfold kx_ran; exact if_pos (show z.toInt < 0 ∨ 8 < z.toInt by omega))) (by decide))⟩
  · exact ⟨1, 0, S, by decide, ⟨ok, oz⟩, fun σ g a w9 b hX hw9 hr => h_wine_n1 (S2 := S) w9 _ _ hX (kl_of_x (f := 1) hr (m_X7_wine_n1 a b S hX hr ok x z hx)), fun σ g d hD hr => kl_m_no 1 (by decide) (m_X8_wine_no d S hD hr ok x z 1 (if_neg hx) (by decide))⟩
set_option maxHeartbeats 2000000 in
set_option maxRecDepth 20000 in
theorem b_bin {S : ks_S} (iv : kl_iv S) (h14 : sn S ≤ 14) (x : Int32) (z : Int32) : kl_both 5 mL_bin mX8_bin [.int x, .int z] S := by
  obtain ⟨ok, oz⟩ := iv
  by_cases hx : ce_in x (sK S 0 2)
  · by_cases hz : 0 ≤ z.toInt ∧ z.toInt ≤ 2
    · obtain ⟨k, hk, hk2, rfl⟩ := ce_ran_ex (lo := 0) (hi := 2) (x := z) ⟨by omega, by omega⟩
      obtain ⟨q, hq, rfl⟩ := ce_in_ex hx
      have hc : k = 0 ∨ k = 1 ∨ k = 2 := by omega
      rcases hc with rfl | rfl | rfl
      · exact ⟨0, (nI (sK S 11 q)), S, by decide, ⟨ok, oz⟩, fun σ g a w9 b hX hw9 hr => h_bin_ok (S := S) w9 _ _ hX hw9 (kl_of_p hX hr (m_X7_bin_ok0 a b S hX hr ok q hq)), fun σ g d hD hr => kl_m_ok (m_X8_bin_ok0 d S hD hr ok q hq)⟩
      · exact ⟨0, (ce_wi (sK S) q), S, by decide, ⟨ok, oz⟩, fun σ g a w9 b hX hw9 hr => h_bin_ok (S := S) w9 _ _ hX hw9 (kl_of_p hX hr (m_X7_bin_ok1 a b S hX hr ok q hq)), fun σ g d hD hr => kl_m_ok (m_X8_bin_ok1 d S hD hr ok q hq)⟩
      · exact ⟨0, (nI (sK S 12 q)), S, by decide, ⟨ok, oz⟩, fun σ g a w9 b hX hw9 hr => h_bin_ok (S := S) w9 _ _ hX hw9 (kl_of_p hX hr (m_X7_bin_ok2 a b S hX hr ok q hq)), fun σ g d hD hr => kl_m_ok (m_X8_bin_ok2 d S hD hr ok q hq)⟩
    · exact ⟨2, 0, S, by decide, ⟨ok, oz⟩, fun σ g a w9 b hX hw9 hr => h_bin_n2 (S2 := S) w9 _ _ hX (kl_of_x (f := 2) hr (m_X7_bin_n2 a b S hX hr ok x z hx 2 (by unfold kx_ran; exact if_pos (show z.toInt < 0 ∨ 2 < z.toInt by omega)) (by decide) (by decide))), fun σ g d hD hr => kl_m_no 2 (by decide) (m_X8_bin_no d S hD hr ok x z 2 (by unfold kx_binG; rw [if_pos hx]; exact (by unfold kx_ran; exact if_pos (show z.toInt < 0 ∨ 2 < z.toInt by omega))) (by decide))⟩
  · exact ⟨1, 0, S, by decide, ⟨ok, oz⟩, fun σ g a w9 b hX hw9 hr => h_bin_n1 (S2 := S) w9 _ _ hX (kl_of_x (f := 1) hr (m_X7_bin_n1 a b S hX hr ok x z hx)), fun σ g d hD hr => kl_m_no 1 (by decide) (m_X8_bin_no d S hD hr ok x z 1 (if_neg hx) (by decide))⟩
set_option maxHeartbeats 2000000 in
set_option maxRecDepth 20000 in
theorem b_has {S : ks_S} (iv : kl_iv S) (h14 : sn S ≤ 14) (x : Int32) (y : Int32) (z : Int32) : kl_both 5 mL_has mX8_has [.int x, .int y, .int z] S := by
  obtain ⟨ok, oz⟩ := iv
  by_cases hx : ce_in x (sK S 0 0) ∧ ce_in y (sK S 0 1)
  · by_cases hz : 0 ≤ z.toInt ∧ z.toInt ≤ 2
    · obtain ⟨k, hk, hk2, rfl⟩ := ce_ran_ex (lo := 0) (hi := 2) (x := z) ⟨by omega, by omega⟩
      obtain ⟨m, hm, rfl⟩ := ce_in_ex hx.1
      obtain ⟨w, hw, rfl⟩ := ce_in_ex hx.2
      have hc : k = 0 ∨ k = 1 ∨ k = 2 := by omega
      rcases hc with rfl | rfl | rfl
      · exact ⟨0, (nI (sK S 7 (m * 6 + w))), S, by decide, ⟨ok, oz⟩, fun σ g a w9 b hX hw9 hr => h_has_ok (S := S) w9 _ _ _ hX hw9 (kl_of_p hX hr (m_X7_has_ok0 a b S hX hr ok m w hm hw)), fun σ g d hD hr => kl_m_ok (m_X8_has_ok0 d S hD hr ok m w hm hw)⟩
      · exact ⟨0, (nI (sK S 8 (m * 6 + w))), S, by decide, ⟨ok, oz⟩, fun σ g a w9 b hX hw9 hr => h_has_ok (S := S) w9 _ _ _ hX hw9 (kl_of_p hX hr (m_X7_has_ok1 a b S hX hr ok m w hm hw)), fun σ g d hD hr => kl_m_ok (m_X8_has_ok1 d S hD hr ok m w hm hw)⟩
      · exact ⟨0, (nI (sK S 9 (m * 6 + w))), S, by decide, ⟨ok, oz⟩, fun σ g a w9 b hX hw9 hr => h_has_ok (S := S) w9 _ _ _ hX hw9 (kl_of_p hX hr (m_X7_has_ok2 a b S hX hr ok m w hm hw)), fun σ g d hD hr => kl_m_ok (m_X8_has_ok2 d S hD hr ok m w hm hw)⟩
    · exact ⟨2, 0, S, by decide, ⟨ok, oz⟩, fun σ g a w9 b hX hw9 hr => h_has_n2 (S2 := S) w9 _ _ _ hX (kl_of_x (f := 2) hr (m_X7_has_n2 a b S hX hr ok x y z hx 2 (by unfold kx_ran; exact if_pos (show z.toInt < 0 ∨ 2 < z.toInt by omega)) (by decide) (by decide))), fun σ g d hD hr => kl_m_no 2 (by decide) (m_X8_has_no d S hD hr ok x y z 2 (by unfold kx_hasG; rw [if_pos hx]; exact (by unfold kx_ran; exact if_pos (show z.toInt < 0 ∨ 2 < z.toInt by omega))) (by decide))⟩
  · exact ⟨1, 0, S, by decide, ⟨ok, oz⟩, fun σ g a w9 b hX hw9 hr => h_has_n1 (S2 := S) w9 _ _ _ hX (kl_of_x (f := 1) hr (m_X7_has_n1 a b S hX hr ok x y z hx)), fun σ g d hD hr => kl_m_no 1 (by decide) (m_X8_has_no d S hD hr ok x y z 1 (if_neg hx) (by decide))⟩
theorem lN_of {t : Int64} (h : 0 ≤ t.toInt) : ∃ X : Nat, X < 2 ^ 63 ∧ t = lN X := by
  have h2 := Int64.toInt_lt t
  refine ⟨t.toInt.toNat, by omega, ?_⟩
  apply Int64.toInt_inj.mp
  rw [pk_lT (by omega)]
  omega
set_option maxHeartbeats 2000000 in
set_option maxRecDepth 20000 in
theorem b_runScript {S : ks_S} (iv : kl_iv S) (h14 : sn S ≤ 14) (x : Int32) (t : Int64) : kl_both 6 mL_runScript mX8_runScript [.int x, .long t] S := by
  obtain ⟨ok, oz⟩ := iv
  obtain ⟨f, hf⟩ : ∃ f, kx_scr x t = f := ⟨_, rfl⟩
  have hc : f = 0 ∨ f = 2 := by rw [← hf]; unfold kx_scr; split; exact Or.inl rfl; exact Or.inr rfl
  rcases hc with rfl | rfl
  · have hq : (1 ≤ x.toInt ∧ x.toInt ≤ 3) ∧ 0 ≤ t.toInt := by
      unfold kx_scr at hf
      split at hf
      · rename_i q; exact ⟨⟨q.1, q.2.1⟩, q.2.2.1⟩
      · exact absurd hf (by decide)
    obtain ⟨X, hX63, rfl⟩ := lN_of hq.2
    obtain ⟨n, hn, hn2, rfl⟩ := ce_ran_ex (lo := 1) (hi := 3) (x := x) ⟨by omega, by omega⟩
    have hc : n = 1 ∨ n = 2 ∨ n = 3 := by omega
    rcases hc with rfl | rfl | rfl
    · exact ⟨0, (ce_o (kx_run (sK S) [X % 100000] 0)), S, by decide, ⟨ok, oz⟩, fun σ g a w9 b hX hw9 hr => h_runScript_ok (S := S) w9 _ _ hX hw9 (kl_of_r hX (m_X7_runScript_ok1 a b S hX hr ok X hX63 hf)), fun σ g d hD hr => kl_m_ok (m_X8_runScript_ok1 d S hD hr ok X hX63 hf)⟩
    · exact ⟨0, (ce_o (kx_run (sK S) [X / 100000 % 100000, X % 100000] 0)), S, by decide, ⟨ok, oz⟩, fun σ g a w9 b hX hw9 hr => h_runScript_ok (S := S) w9 _ _ hX hw9 (kl_of_r hX (m_X7_runScript_ok2 a b S hX hr ok X hX63 hf)), fun σ g d hD hr => kl_m_ok (m_X8_runScript_ok2 d S hD hr ok X hX63 hf)⟩
    · exact ⟨0, (ce_o (kx_run (sK S) [X / 100000 / 100000 % 100000, X / 100000 % 100000, X % 100000] 0)), S, by decide, ⟨ok, oz⟩, fun σ g a w9 b hX hw9 hr => h_runScript_ok (S := S) w9 _ _ hX hw9 (kl_of_r hX (m_X7_runScript_ok3 a b S hX hr ok X hX63 hf)), fun σ g d hD hr => kl_m_ok (m_X8_runScript_ok3 d S hD hr ok X hX63 hf)⟩
  · exact ⟨1, 0, S, by decide, ⟨ok, oz⟩, fun σ g a w9 b hX hw9 hr => h_runScript_n2 (S2 := S) w9 _ _ hX (kl_of_x (f := 2) hr (m_X7_runScript_no a b S hX hr ok x t 2 hf (by decide) (by decide))), fun σ g d hD hr => kl_m_no 1 (by decide) (m_X8_runScript_no d S hD hr ok x t 2 hf (by decide))⟩
set_option maxHeartbeats 2000000 in
set_option maxRecDepth 20000 in
theorem b_simulate {S : ks_S} (iv : kl_iv S) (h14 : sn S ≤ 14) (t : Int64) (z : Int32) : kl_both 6 mL_simulate mX8_simulate [.long t, .int z] S := by
  obtain ⟨ok, oz⟩ := iv
  by_cases hz : 1 ≤ z.toInt ∧ z.toInt ≤ 99
  · obtain ⟨m, hm, hm2, rfl⟩ := ce_ran_ex (lo := 1) (hi := 99) (x := z) ⟨by omega, by omega⟩
    have em := nI_toInt (n := m) (by omega)
    exact ⟨0, (nI (1000 * ce_sum ((kx_sim m t (sK S)) 9) 36 + kv_emp (kx_sim m t (sK S)) ((kx_sim m t (sK S)) 0 2))), S, by decide, ⟨ok, oz⟩, fun σ g a w9 b hX hw9 hr => h_simulate_ok (S := S) w9 _ _ hX hw9 (kl_of_r hX (m_X7_simulate_ok a b S hX hr ok t m (by omega) (by unfold kx_ran; exact if_neg (show ¬ ((nI m).toInt < 1 ∨ 99 < (nI m).toInt) by omega)))), fun σ g d hD hr => kl_m_ok (m_X8_simulate_ok d S hD hr ok t m hm hm2)⟩
  · exact ⟨1, 0, S, by decide, ⟨ok, oz⟩, fun σ g a w9 b hX hw9 hr => h_simulate_n2 (S2 := S) w9 _ _ hX (kl_of_x (f := 2) hr (m_X7_simulate_no a b S hX hr ok t z 2 (by unfold kx_ran; exact if_pos (show z.toInt < 1 ∨ 99 < z.toInt by omega)) (by decide) (by decide))), fun σ g d hD hr => kl_m_no 1 (by decide) (m_X8_simulate_no d S hD hr ok t z 2 (by unfold kx_ran; exact if_pos (show z.toInt < 1 ∨ 99 < z.toInt by omega)) (by decide))⟩
