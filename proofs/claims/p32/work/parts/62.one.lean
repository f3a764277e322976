theorem kx_loop_le {T : Nat → Nat} {len : Nat} : ∀ {t p q : Nat} {K : ce_V}, kv_cl K → (kx_loop T len t K p).1 = some q → q ≤ len
  | 0, _, _, _, _, e => by cases e
  | t + 1, p, q, K, h, e => by
    unfold kx_loop at e
    split at e
    · rename_i hp
      have hh := kx_part_ok (T := T) h hp
      split at e
      · exact kx_loop_le hh.1 e
      · cases e
        exact hh.2.2.1
    · cases e
theorem kx_read_le {T : Nat → Nat} {len q : Nat} (e : (kx_read T len).1 = some q) : q ≤ len := by
  unfold kx_read at e
  split at e
  · cases e
    exact Nat.zero_le _
  · exact kx_loop_le cl_0 e
def kl_one (Yh : ce_Y) (As : List Value) (S : ks_S) : Prop := ∃ (V : Int64) (S2 : ks_S), kl_iv S2 ∧ ∀ (σ0 σ : ce_S) (g0 g : ce_D) (a : Nat), kw a S σ0 g0 σ g → ce_CT (ce_rl 0 1) Yh (.ref a :: As) σ g (kq σ0 g0 a S2 V) ce_no
/-- .. and nothing changes -/
def kl_ask (Yh : ce_Y) (As : List Value) (S : ks_S) : Prop := ∃ V : Int64, ∀ (σ0 σ : ce_S) (g0 g : ce_D) (a : Nat), kw a S σ0 g0 σ g → ce_CT (ce_rl 0 1) Yh (.ref a :: As) σ g (kq σ0 g0 a S V) ce_no
set_option maxHeartbeats 2000000 in
set_option maxRecDepth 20000 in
theorem o_addMember {S : ks_S} (iv : kl_iv S) (x : Int32) : kl_one mL_addMember [.int x] S := by
  obtain ⟨f, hf⟩ : ∃ f, kv_memF (sK S) x = f := ⟨_, rfl⟩
  have h3 : f ≤ 3 := by rw [← hf]; unfold kv_memF; (repeat' split) <;> decide
  have hc : f = 0 ∨ f = 1 ∨ f = 2 ∨ f = 3 := by omega
  rcases hc with rfl | rfl | rfl | rfl
  · have hm : sK S 0 0 < 6 ∧ 0 ≤ x.toInt ∧ x.toInt ≤ 999 := by
      unfold kv_memF at hf; (repeat' split at hf) <;> omega
    obtain ⟨hm, hx⟩ := hm
    obtain ⟨p, hp, hp2, rfl⟩ := ce_ran_ex (lo := 0) (hi := 999) (x := x) ⟨by omega, by omega⟩
    exact ⟨_, _, iv_enr iv hm hp2, fun σ0 σ g0 g a hw => q_enr hw iv hm hp2⟩
  · exact absurd hf (by unfold kv_memF; (repeat' split) <;> decide)
  · exact ⟨(-9000000000000000002 : Int64), S, iv, fun σ0 σ g0 g a hw => h_addMember_n2 x hw (fun b hX hr => kl_of_x hr (m_X7_addMember_no a b S hX hr iv.ok x 2 hf (by decide) (by decide)))⟩
  · exact ⟨(-9000000000000000003 : Int64), S, iv, fun σ0 σ g0 g a hw => h_addMember_n3 x hw (fun b hX hr => kl_of_x hr (m_X7_addMember_no a b S hX hr iv.ok x 3 hf (by decide) (by decide)))⟩
set_option maxHeartbeats 2000000 in
set_option maxRecDepth 20000 in
theorem o_addWine {S : ks_S} (iv : kl_iv S) (x : Int32) (y : Int32) : kl_one mL_addWine [.int x, .int y] S := by
  obtain ⟨f, hf⟩ : ∃ f, kv_winF (sK S) x y = f := ⟨_, rfl⟩
  have h3 : f ≤ 3 := by rw [← hf]; unfold kv_winF; (repeat' split) <;> decide
  have hc : f = 0 ∨ f = 1 ∨ f = 2 ∨ f = 3 := by omega
  rcases hc with rfl | rfl | rfl | rfl
  · have hm : sK S 0 1 < 6 ∧ 1 ≤ x.toInt ∧ x.toInt ≤ 99 ∧ 0 ≤ y.toInt ∧ y.toInt ≤ 60 := by
      unfold kv_winF at hf; (repeat' split at hf) <;> omega
    obtain ⟨hm, hx⟩ := hm
    obtain ⟨p, hp, hp2, rfl⟩ := ce_ran_ex (lo := 1) (hi := 99) (x := x) ⟨by omega, by omega⟩
    obtain ⟨n, hn, hn2, rfl⟩ := ce_ran_ex (lo := 0) (hi := 60) (x := y) ⟨by omega, by omega⟩
    exact ⟨_, _, iv_off iv hm ⟨hp, hp2⟩ hn2, fun σ0 σ g0 g a hw => q_off hw iv hm ⟨hp, hp2⟩ hn2⟩
  · exact absurd hf (by unfold kv_winF; (repeat' split) <;> decide)
  · exact ⟨(-9000000000000000002 : Int64), S, iv, fun σ0 σ g0 g a hw => h_addWine_n2 x y hw (fun b hX hr => kl_of_x hr (m_X7_addWine_no a b S hX hr iv.ok x y 2 hf (by decide) (by decide)))⟩
  · exact ⟨(-9000000000000000003 : Int64), S, iv, fun σ0 σ g0 g a hw => h_addWine_n3 x y hw (fun b hX hr => kl_of_x hr (m_X7_addWine_no a b S hX hr iv.ok x y 3 hf (by decide) (by decide)))⟩
set_option maxHeartbeats 2000000 in
set_option maxRecDepth 20000 in
theorem o_addBin {S : ks_S} (iv : kl_iv S) (x : Int32) : kl_one mL_addBin [.int x] S := by
  obtain ⟨f, hf⟩ : ∃ f, kv_binF (sK S) x = f := ⟨_, rfl⟩
  have h3 : f ≤ 3 := by rw [← hf]; unfold kv_binF; (repeat' split) <;> decide
  have hc : f = 0 ∨ f = 1 ∨ f = 2 ∨ f = 3 := by omega
  rcases hc with rfl | rfl | rfl | rfl
  · have hm : sK S 0 2 < 8 ∧ 1 ≤ x.toInt ∧ x.toInt ≤ 24 := by
      unfold kv_binF at hf; (repeat' split at hf) <;> omega
    obtain ⟨hm, hx⟩ := hm
    obtain ⟨n, hn, hn2, rfl⟩ := ce_ran_ex (lo := 1) (hi := 24) (x := x) ⟨by omega, by omega⟩
    exact ⟨_, _, iv_ins iv hm ⟨hn, hn2⟩, fun σ0 σ g0 g a hw => q_ins hw iv hm ⟨hn, hn2⟩⟩
  · exact absurd hf (by unfold kv_binF; (repeat' split) <;> decide)
  · exact ⟨(-9000000000000000002 : Int64), S, iv, fun σ0 σ g0 g a hw => h_addBin_n2 x hw (fun b hX hr => kl_of_x hr (m_X7_addBin_no a b S hX hr iv.ok x 2 hf (by decide) (by decide)))⟩
  · exact ⟨(-9000000000000000003 : Int64), S, iv, fun σ0 σ g0 g a hw => h_addBin_n3 x hw (fun b hX hr => kl_of_x hr (m_X7_addBin_no a b S hX hr iv.ok x 3 hf (by decide) (by decide)))⟩
set_option maxHeartbeats 2000000 in
set_option maxRecDepth 20000 in
theorem o_order {S : ks_S} (iv : kl_iv S) (x : Int32) (y : Int32) (n : Int32) : kl_one mL_order [.int x, .int y, .int n] S := by
  obtain ⟨f, hf⟩ : ∃ f, kv_ordF (sK S) x y n = f := ⟨_, rfl⟩
  have h3 : f ≤ 3 := by rw [← hf]; unfold kv_ordF; (repeat' split) <;> decide
  have hM := iv.ok.1.me
  have hW := iv.ok.1.wi
  have hB := iv.ok.1.i7
  have hc : f = 0 ∨ f = 1 ∨ f = 2 ∨ f = 3 := by omega
  rcases hc with rfl | rfl | rfl | rfl
  · have hin : ce_in x (sK S 0 0) ∧ ce_in y (sK S 0 1) := by
      unfold kv_ordF at hf
      split at hf
      · assumption
      · exact absurd hf (by decide)
    have hn : 0 ≤ n.toInt ∧ n.toInt ≤ 60 := by
      unfold kv_ordF at hf
      rw [if_pos hin] at hf
      (repeat' split at hf) <;> omega
    obtain ⟨q, hq, hq2, rfl⟩ := ce_ran_ex (lo := 0) (hi := 60) (x := n) ⟨by omega, by omega⟩
    obtain ⟨m, hm, rfl⟩ := ce_in_ex hin.1
    obtain ⟨w, hw6, rfl⟩ := ce_in_ex hin.2
    have hq := kv_ord0 (by omega) (by omega) (by omega) hf
    exact ⟨_, _, iv_ord iv hm hw6 hq2 hq.2.2.2, fun σ0 σ g0 g a hw => q_ord hw iv hm hw6 hq2 hq.2.2.2⟩
  · exact ⟨(-9000000000000000001 : Int64), S, iv, fun σ0 σ g0 g a hw => h_order_n1 x y n hw (fun b hX hr => kl_of_x hr (m_X7_order_no a b S hX hr iv.ok x y n 1 hf (by decide) (by decide)))⟩
  · exact ⟨(-9000000000000000002 : Int64), S, iv, fun σ0 σ g0 g a hw => h_order_n2 x y n hw (fun b hX hr => kl_of_x hr (m_X7_order_no a b S hX hr iv.ok x y n 2 hf (by decide) (by decide)))⟩
  · exact ⟨(-9000000000000000003 : Int64), S, iv, fun σ0 σ g0 g a hw => h_order_n3 x y n hw (fun b hX hr => kl_of_x hr (m_X7_order_no a b S hX hr iv.ok x y n 3 hf (by decide) (by decide)))⟩
set_option maxHeartbeats 2000000 in
set_option maxRecDepth 20000 in
theorem o_allocate {S : ks_S} (iv : kl_iv S) (y : Int32) : kl_one mL_allocate [.int y] S := by
  obtain ⟨f, hf⟩ : ∃ f, kv_allF (sK S) y = f := ⟨_, rfl⟩
  have h3 : f ≤ 3 := by rw [← hf]; unfold kv_allF; (repeat' split) <;> decide
  have hM := iv.ok.1.me
  have hW := iv.ok.1.wi
  have hB := iv.ok.1.i7
  have hc : f = 0 ∨ f = 1 ∨ f = 2 ∨ f = 3 := by omega
  rcases hc with rfl | rfl | rfl | rfl
  · have hin : ce_in y (sK S 0 1) := by
      unfold kv_allF at hf
      split at hf
      · assumption
      · exact absurd hf (by decide)
    obtain ⟨w, hw6, rfl⟩ := ce_in_ex hin
    have hq := kv_all0 (by omega) hf
    exact ⟨_, _, iv_all iv hw6 hq.2, fun σ0 σ g0 g a hw => q_all hw iv hw6 hq.2⟩
  · exact ⟨(-9000000000000000001 : Int64), S, iv, fun σ0 σ g0 g a hw => h_allocate_n1 y hw (fun b hX hr => kl_of_x hr (m_X7_allocate_no a b S hX hr iv.ok y 1 hf (by decide) (by decide)))⟩
  · exact absurd hf (by unfold kv_allF; (repeat' split) <;> decide)
  · exact ⟨(-9000000000000000003 : Int64), S, iv, fun σ0 σ g0 g a hw => h_allocate_n3 y hw (fun b hX hr => kl_of_x hr (m_X7_allocate_no a b S hX hr iv.ok y 3 hf (by decide) (by decide)))⟩
set_option maxHeartbeats 2000000 in
set_option maxRecDepth 20000 in
theorem o_deliver {S : ks_S} (iv : kl_iv S) (y : Int32) : kl_one mL_deliver [.int y] S := by
  obtain ⟨f, hf⟩ : ∃ f, kv_delF (sK S) y = f := ⟨_, rfl⟩
  have h3 : f ≤ 3 := by rw [← hf]; unfold kv_delF; (repeat' split) <;> decide
  have hM := iv.ok.1.me
  have hW := iv.ok.1.wi
  have hB := iv.ok.1.i7
  have hc : f = 0 ∨ f = 1 ∨ f = 2 ∨ f = 3 := by omega
  rcases hc with rfl | rfl | rfl | rfl
  · have hin : ce_in y (sK S 0 1) := by
      unfold kv_delF at hf
      split at hf
      · assumption
      · exact absurd hf (by decide)
    obtain ⟨w, hw6, rfl⟩ := ce_in_ex hin
    have hq := kv_del0 (by omega) hf
    exact ⟨_, _, iv_del iv hw6 hq.2.1 hq.2.2, fun σ0 σ g0 g a hw => q_del hw iv hw6 hq.2.1 hq.2.2⟩
  · exact ⟨(-9000000000000000001 : Int64), S, iv, fun σ0 σ g0 g a hw => h_deliver_n1 y hw (fun b hX hr => kl_of_x hr (m_X7_deliver_no a b S hX hr iv.ok y 1 hf (by decide) (by decide)))⟩
  · exact absurd hf (by unfold kv_delF; (repeat' split) <;> decide)
  · exact ⟨(-9000000000000000003 : Int64), S, iv, fun σ0 σ g0 g a hw => h_deliver_n3 y hw (fun b hX hr => kl_of_x hr (m_X7_deliver_no a b S hX hr iv.ok y 3 hf (by decide) (by decide)))⟩
set_option maxHeartbeats 2000000 in
set_option maxRecDepth 20000 in
theorem o_drink {S : ks_S} (iv : kl_iv S) (x : Int32) (y : Int32) (n : Int32) : kl_one mL_drink [.int x, .int y, .int n] S := by
  obtain ⟨f, hf⟩ : ∃ f, kv_driF (sK S) x y n = f := ⟨_, rfl⟩
  have h3 : f ≤ 3 := by rw [← hf]; unfold kv_driF; (repeat' split) <;> decide
  have hM := iv.ok.1.me
  have hW := iv.ok.1.wi
  have hB := iv.ok.1.i7
  have hc : f = 0 ∨ f = 1 ∨ f = 2 ∨ f = 3 := by omega
  rcases hc with rfl | rfl | rfl | rfl
  · have hin : ce_in x (sK S 0 0) ∧ ce_in y (sK S 0 1) := by
      unfold kv_driF at hf
      split at hf
      · assumption
      · exact absurd hf (by decide)
    have hn : 1 ≤ n.toInt ∧ n.toInt ≤ 60 := by
      unfold kv_driF at hf
      rw [if_pos hin] at hf
      (repeat' split at hf) <;> omega
    obtain ⟨q, hq, hq2, rfl⟩ := ce_ran_ex (lo := 1) (hi := 60) (x := n) ⟨by omega, by omega⟩
    obtain ⟨m, hm, rfl⟩ := ce_in_ex hin.1
    obtain ⟨w, hw6, rfl⟩ := ce_in_ex hin.2
    have hq := kv_dri0 (by omega) (by omega) (by omega) hf
    exact ⟨_, _, iv_dri iv hm hw6 ⟨hq.2.2.1, hq.2.2.2.2⟩, fun σ0 σ g0 g a hw => q_dri hw iv hm hw6 ⟨hq.2.2.1, hq.2.2.2.2⟩⟩
  · exact ⟨(-9000000000000000001 : Int64), S, iv, fun σ0 σ g0 g a hw => h_drink_n1 x y n hw (fun b hX hr => kl_of_x hr (m_X7_drink_no a b S hX hr iv.ok x y n 1 hf (by decide) (by decide)))⟩
  · exact ⟨(-9000000000000000002 : Int64), S, iv, fun σ0 σ g0 g a hw => h_drink_n2 x y n hw (fun b hX hr => kl_of_x hr (m_X7_drink_no a b S hX hr iv.ok x y n 2 hf (by decide) (by decide)))⟩
  · exact ⟨(-9000000000000000003 : Int64), S, iv, fun σ0 σ g0 g a hw => h_drink_n3 x y n hw (fun b hX hr => kl_of_x hr (m_X7_drink_no a b S hX hr iv.ok x y n 3 hf (by decide) (by decide)))⟩
set_option maxHeartbeats 2000000 in
set_option maxRecDepth 20000 in
theorem o_give {S : ks_S} (iv : kl_iv S) (x : Int32) (z : Int32) (y : Int32) (n : Int32) : kl_one mL_give [.int x, .int z, .int y, .int n] S := by
  obtain ⟨f, hf⟩ : ∃ f, kv_gifF (sK S) x z y n = f := ⟨_, rfl⟩
  have h3 : f ≤ 3 := by rw [← hf]; unfold kv_gifF; (repeat' split) <;> decide
  have hM := iv.ok.1.me
  have hW := iv.ok.1.wi
  have hB := iv.ok.1.i7
  have hc : f = 0 ∨ f = 1 ∨ f = 2 ∨ f = 3 := by omega
  rcases hc with rfl | rfl | rfl | rfl
  · have hin : (ce_in x (sK S 0 0) ∧ ce_in y (sK S 0 1)) ∧ ce_in z (sK S 0 0) := by
      unfold kv_gifF at hf
      split at hf
      · assumption
      · exact absurd hf (by decide)
    have hn : 1 ≤ n.toInt ∧ n.toInt ≤ 60 := by
      unfold kv_gifF at hf
      rw [if_pos hin] at hf
      (repeat' split at hf) <;> omega
    obtain ⟨q, hq, hq2, rfl⟩ := ce_ran_ex (lo := 1) (hi := 60) (x := n) ⟨by omega, by omega⟩
    obtain ⟨m, hm, rfl⟩ := ce_in_ex hin.1.1
    obtain ⟨w, hw6, rfl⟩ := ce_in_ex hin.1.2
    obtain ⟨o, ho, rfl⟩ := ce_in_ex hin.2
    have hq := kv_gif0 (by omega) (by omega) (by omega) (by omega) hf
    exact ⟨_, _, iv_giv iv hm ho hw6 hq.2.2.2.1 ⟨hq.2.2.2.2.1, hq.2.2.2.2.2.2⟩, fun σ0 σ g0 g a hw => q_giv hw iv hm ho hw6 hq.2.2.2.1 ⟨hq.2.2.2.2.1, hq.2.2.2.2.2.2⟩⟩
  · exact ⟨(-9000000000000000001 : Int64), S, iv, fun σ0 σ g0 g a hw => h_give_n1 x z y n hw (fun b hX hr => kl_of_x hr (m_X7_give_no a b S hX hr iv.ok x z y n 1 hf (by decide) (by decide)))⟩
  · exact ⟨(-9000000000000000002 : Int64), S, iv, fun σ0 σ g0 g a hw => h_give_n2 x z y n hw (fun b hX hr => kl_of_x hr (m_X7_give_no a b S hX hr iv.ok x z y n 2 hf (by decide) (by decide)))⟩
  · exact ⟨(-9000000000000000003 : Int64), S, iv, fun σ0 σ g0 g a hw => h_give_n3 x z y n hw (fun b hX hr => kl_of_x hr (m_X7_give_no a b S hX hr iv.ok x z y n 3 hf (by decide) (by decide)))⟩
set_option maxHeartbeats 2000000 in
set_option maxRecDepth 20000 in
theorem o_cork {S : ks_S} (iv : kl_iv S) (x : Int32) (y : Int32) : kl_one mL_cork [.int x, .int y] S := by
  obtain ⟨f, hf⟩ : ∃ f, kv_corF (sK S) x y = f := ⟨_, rfl⟩
  have h3 : f ≤ 3 := by rw [← hf]; unfold kv_corF; (repeat' split) <;> decide
  have hM := iv.ok.1.me
  have hW := iv.ok.1.wi
  have hB := iv.ok.1.i7
  have hc : f = 0 ∨ f = 1 ∨ f = 2 ∨ f = 3 := by omega
  rcases hc with rfl | rfl | rfl | rfl
  · have hin : ce_in x (sK S 0 0) ∧ ce_in y (sK S 0 1) := by
      unfold kv_corF at hf
      split at hf
      · assumption
      · exact absurd hf (by decide)
    obtain ⟨m, hm, rfl⟩ := ce_in_ex hin.1
    obtain ⟨w, hw6, rfl⟩ := ce_in_ex hin.2
    have hq := kv_cor0 (by omega) (by omega) hf
    exact ⟨_, _, iv_cor iv hm hw6 hq.2.2, fun σ0 σ g0 g a hw => q_cor hw iv hm hw6 hq.2.2⟩
  · exact ⟨(-9000000000000000001 : Int64), S, iv, fun σ0 σ g0 g a hw => h_cork_n1 x y hw (fun b hX hr => kl_of_x hr (m_X7_cork_no a b S hX hr iv.ok x y 1 hf (by decide) (by decide)))⟩
  · exact absurd hf (by unfold kv_corF; (repeat' split) <;> decide)
  · exact ⟨(-9000000000000000003 : Int64), S, iv, fun σ0 σ g0 g a hw => h_cork_n3 x y hw (fun b hX hr => kl_of_x hr (m_X7_cork_no a b S hX hr iv.ok x y 3 hf (by decide) (by decide)))⟩
set_option maxHeartbeats 2000000 in
set_option maxRecDepth 20000 in
theorem o_move {S : ks_S} (iv : kl_iv S) (x : Int32) (y : Int32) (n : Int32) : kl_one mL_move [.int x, .int y, .int n] S := by
  obtain ⟨f, hf⟩ : ∃ f, kv_carF (sK S) x y n = f := ⟨_, rfl⟩
  have h3 : f ≤ 3 := by rw [← hf]; unfold kv_carF; (repeat' split) <;> decide
  have hM := iv.ok.1.me
  have hW := iv.ok.1.wi
  have hB := iv.ok.1.i7
  have hc : f = 0 ∨ f = 1 ∨ f = 2 ∨ f = 3 := by omega
  rcases hc with rfl | rfl | rfl | rfl
  · have hin : ce_in x (sK S 0 2) ∧ ce_in y (sK S 0 2) := by
      unfold kv_carF at hf
      split at hf
      · assumption
      · exact absurd hf (by decide)
    have hn : 1 ≤ n.toInt ∧ n.toInt ≤ 24 := by
      unfold kv_carF at hf
      rw [if_pos hin] at hf
      (repeat' split at hf) <;> omega
    obtain ⟨q, hq, hq2, rfl⟩ := ce_ran_ex (lo := 1) (hi := 24) (x := n) ⟨by omega, by omega⟩
    obtain ⟨p, hp, rfl⟩ := ce_in_ex hin.1
    obtain ⟨u, hu, rfl⟩ := ce_in_ex hin.2
    have hq := kv_car0 iv.ok.1.rk (by omega) (by omega) (by omega) hf
    exact ⟨_, _, iv_mov iv hp hu hq.2.2.1 ⟨hq.2.2.2.1, hq.2.2.2.2.2.1⟩ hq2 hq.2.2.2.2.2.2.1 hq.2.2.2.2.2.2.2, fun σ0 σ g0 g a hw => q_mov hw iv hp hu hq.2.2.1 ⟨hq.2.2.2.1, hq.2.2.2.2.2.1⟩ hq2 hq.2.2.2.2.2.2.1 hq.2.2.2.2.2.2.2⟩
  · exact ⟨(-9000000000000000001 : Int64), S, iv, fun σ0 σ g0 g a hw => h_move_n1 x y n hw (fun b hX hr => kl_of_x hr (m_X7_move_no a b S hX hr iv.ok x y n 1 hf (by decide) (by decide)))⟩
  · exact ⟨(-9000000000000000002 : Int64), S, iv, fun σ0 σ g0 g a hw => h_move_n2 x y n hw (fun b hX hr => kl_of_x hr (m_X7_move_no a b S hX hr iv.ok x y n 2 hf (by decide) (by decide)))⟩
  · exact ⟨(-9000000000000000003 : Int64), S, iv, fun σ0 σ g0 g a hw => h_move_n3 x y n hw (fun b hX hr => kl_of_x hr (m_X7_move_no a b S hX hr iv.ok x y n 3 hf (by decide) (by decide)))⟩
set_option maxHeartbeats 2000000 in
set_option maxRecDepth 20000 in
theorem o_pay {S : ks_S} (iv : kl_iv S) (x : Int32) : kl_one mL_pay [.int x] S := by
  by_cases hx : ce_in x (sK S 0 0)
  · obtain ⟨m, hm, rfl⟩ := ce_in_ex hx
    exact ⟨_, _, iv_pay iv hm, fun σ0 σ g0 g a hw => q_pay hw iv hm⟩
  · exact ⟨(-9000000000000000001 : Int64), S, iv, fun σ0 σ g0 g a hw => h_pay_n1 x hw (fun b hX hr => kl_of_x hr (m_X7_pay_no a b S hX hr iv.ok x hx))⟩
set_option maxHeartbeats 2000000 in
set_option maxRecDepth 20000 in
theorem o_undo {S : ks_S} (iv : kl_iv S) : kl_one mL_undo [] S := by
  by_cases hn : sn S = 0
  · exact ⟨(-9000000000000000003 : Int64), S, iv, fun σ0 σ g0 g a hw => h_undo_n3  hw (fun b hX hr => kl_of_x hr (m_X7_undo_no a b S hX hr iv.ok hn))⟩
  · exact ⟨_, _, iv_undo iv (by omega), fun σ0 σ g0 g a hw => q_undo hw iv (by omega)⟩
set_option maxHeartbeats 2000000 in
set_option maxRecDepth 20000 in
theorem o_save {S : ks_S} (iv : kl_iv S) (x : Int32) : kl_one mL_save [.int x] S := by
  by_cases hx : ce_in x 2
  · obtain ⟨s, hs, rfl⟩ := ce_in_ex hx
    exact ⟨_, _, iv_save iv s, fun σ0 σ g0 g a hw => q_save hw iv hs⟩
  · exact ⟨(-9000000000000000001 : Int64), S, iv, fun σ0 σ g0 g a hw => h_save_n1 x hw (fun b hX hr => kl_of_x hr (m_X7_save_no a b S hX hr iv.ok x hx))⟩
set_option maxHeartbeats 2000000 in
set_option maxRecDepth 20000 in
theorem o_restore {S : ks_S} (iv : kl_iv S) (x : Int32) : kl_one mL_restore [.int x] S := by
  by_cases hx : ce_in x 2
  · obtain ⟨s, hs, rfl⟩ := ce_in_ex hx
    by_cases hF : sF S s = true
    · exact ⟨_, _, iv_rest iv hs hF, fun σ0 σ g0 g a hw => q_rest hw iv hs hF⟩
    · exact ⟨(-9000000000000000003 : Int64), S, iv, fun σ0 σ g0 g a hw => h_restore_n3 (nI s) hw (fun b hX hr => kl_of_x hr (m_X7_restore_n3 a b S hX hr iv.ok s hs hF))⟩
  · exact ⟨(-9000000000000000001 : Int64), S, iv, fun σ0 σ g0 g a hw => h_restore_n1 x hw (fun b hX hr => kl_of_x hr (m_X7_restore_n1 a b S hX hr iv.ok x hx))⟩
set_option maxHeartbeats 2000000 in
set_option maxRecDepth 20000 in
theorem o_roomFor {S : ks_S} (iv : kl_iv S) (x : Int32) : kl_ask mL_roomFor [.int x] S := by
  by_cases hx : ce_in x (sK S 0 1)
  · obtain ⟨w, hw6, rfl⟩ := ce_in_ex hx
    exact ⟨_, fun σ0 σ g0 g a hw => h_roomFor_ok (nI w) hw (fun b hX hr => kl_of_p hX hr (m_X7_roomFor_ok a b S hX hr iv.ok w hw6))⟩
  · exact ⟨(-9000000000000000001 : Int64), fun σ0 σ g0 g a hw => h_roomFor_n1 x hw (fun b hX hr => kl_of_x hr (m_X7_roomFor_n1 a b S hX hr iv.ok x hx))⟩
set_option maxHeartbeats 2000000 in
set_option maxRecDepth 20000 in
theorem o_shortest {S : ks_S} (iv : kl_iv S) (x : Int32) : kl_ask mL_shortest [.int x] S := by
  by_cases hx : ce_in x (sK S 0 1)
  · obtain ⟨w, hw6, rfl⟩ := ce_in_ex hx
    by_cases h5 : sK S 5 w = 0
    · exact ⟨_, fun σ0 σ g0 g a hw => q_sh hw iv hw6 h5⟩
    · exact ⟨_, fun σ0 σ g0 g a hw => h_shortest_ok (nI w) hw (fun b hX hr => kl_of_p hX hr (m_X7_shortest_ok2 a b S hX hr iv.ok w hw6 h5))⟩
  · exact ⟨(-9000000000000000001 : Int64), fun σ0 σ g0 g a hw => h_shortest_n1 x hw (fun b hX hr => kl_of_x hr (m_X7_shortest_no a b S hX hr iv.ok x hx))⟩
set_option maxHeartbeats 2000000 in
set_option maxRecDepth 20000 in
theorem o_wouldGet {S : ks_S} (iv : kl_iv S) (x : Int32) (y : Int32) : kl_ask mL_wouldGet [.int x, .int y] S := by
  by_cases hx : ce_in x (sK S 0 0) ∧ ce_in y (sK S 0 1)
  · obtain ⟨m, hm, rfl⟩ := ce_in_ex hx.1
    obtain ⟨w, hw6, rfl⟩ := ce_in_ex hx.2
    by_cases h5 : sK S 5 w = 0
    · exact ⟨_, fun σ0 σ g0 g a hw => q_wg hw iv hm hw6 h5⟩
    · exact ⟨_, fun σ0 σ g0 g a hw => h_wouldGet_ok (nI m) (nI w) hw (fun b hX hr => kl_of_p hX hr (m_X7_wouldGet_ok2 a b S hX hr iv.ok m w hm hw6 h5))⟩
  · exact ⟨(-9000000000000000001 : Int64), fun σ0 σ g0 g a hw => h_wouldGet_n1 x y hw (fun b hX hr => kl_of_x hr (m_X7_wouldGet_no a b S hX hr iv.ok x y hx))⟩
theorem lN_of {t : Int64} (h : 0 ≤ t.toInt) : ∃ X : Nat, X < 2 ^ 63 ∧ t = lN X := by
  have h2 := Int64.toInt_lt t
  refine ⟨t.toInt.toNat, by omega, ?_⟩
  apply Int64.toInt_inj.mp
  rw [pk_lT (by omega)]
  omega
set_option maxHeartbeats 2000000 in
set_option maxRecDepth 20000 in
theorem o_script {S : ks_S} (iv : kl_iv S) (x : Int32) (t : Int64) : kl_ask mL_script [.int x, .long t] S := by
  obtain ⟨f, hf⟩ : ∃ f, kx_scr x t = f := ⟨_, rfl⟩
  have hc : f = 0 ∨ f = 2 := by rw [← hf]; unfold kx_scr; split; exact Or.inl rfl; exact Or.inr rfl
  rcases hc with rfl | rfl
  · have hq : (1 ≤ x.toInt ∧ x.toInt ≤ 3) ∧ 0 ≤ t.toInt := by
      unfold kx_scr at hf
      split at hf
      · rename_i q; exact ⟨⟨q.1, q.2.1⟩, q.2.2.1⟩
      · exact absurd hf (by decide)
    obtain ⟨X, hX63, rfl⟩ := lN_of hq.2
    obtain ⟨n, hn, hn2, rfl⟩ := ce_ran_ex (lo := 1) (hi := 3) (x := x) ⟨by omega, by omega⟩
    have hc : n = 1 ∨ n = 2 ∨ n = 3 := by omega
    rcases hc with rfl | rfl | rfl
    · exact ⟨_, fun σ0 σ g0 g a hw => h_script_ok (nI 1) (lN X) hw (fun b hX hr => kl_of_r hX (m_X7_runScript_ok1 a b S hX hr iv.ok X hX63 hf))⟩
    · exact ⟨_, fun σ0 σ g0 g a hw => h_script_ok (nI 2) (lN X) hw (fun b hX hr => kl_of_r hX (m_X7_runScript_ok2 a b S hX hr iv.ok X hX63 hf))⟩
    · exact ⟨_, fun σ0 σ g0 g a hw => h_script_ok (nI 3) (lN X) hw (fun b hX hr => kl_of_r hX (m_X7_runScript_ok3 a b S hX hr iv.ok X hX63 hf))⟩
  · exact ⟨(-9000000000000000002 : Int64), fun σ0 σ g0 g a hw => h_script_n2 x t hw (fun b hX hr => kl_of_x hr (m_X7_runScript_no a b S hX hr iv.ok x t 2 hf (by decide) (by decide)))⟩
set_option maxHeartbeats 2000000 in
set_option maxRecDepth 20000 in
theorem o_load {S : ks_S} (iv : kl_iv S) : kl_one mL_load [] S := by
  cases hp : (kx_read (sT S) (sl S)).1 with
  | none => exact ⟨_, _, iv_load iv, fun σ0 σ g0 g a hw => h_load_ok hw (fun b hX hr => kl_of_r hX (m_X7_load_ok a b S hX hr iv.ok hp))⟩
  | some p => exact ⟨(-9000000000000000003 : Int64), S, iv, fun σ0 σ g0 g a hw => h_load_n3  hw (fun b hX hr => m_X7_load_nx a b S hX hr iv.ok p (by have := kx_read_le hp; have := hr.2.2.2.1; omega) hp)⟩
