/-! compares of longs that stand for naturals -/
section KMA
variable {ρ : Room} {Y : ce_Y} {kc ks pc : Nat} {L : List (Option Value)} {st : List Value} {σ : ce_S} {g : ce_D} {Q : Option Value → ce_S → ce_D → Prop} {X : String → ce_S → ce_D → Prop}
theorem ce_if_eqL {x : Int32} {a b : Nat} {off : Int} {tgt : Nat} (d : decode Y.2.1 pc = .ok (.ifCond .eq off, 3)) (ht : (pc : Int) + off = (tgt : Int)) (hx : x = lg_cmp (lN a) (lN b)) (ha : a < 9223372036854775808) (hb : b < 9223372036854775808) (kt : a = b → ce_WP ρ Y kc ks tgt L st σ g Q X) (kf : a ≠ b → ce_WP ρ Y kc ks (pc + 3) L st σ g Q X) : ce_WP ρ Y kc ks pc L (.int x :: st) σ g Q X := by
  have ha2 : a < 2 ^ 63 := by omega
  have hb2 : b < 2 ^ 63 := by omega
  exact ce_if_eqC d ht hx (fun z => kt ((pk_lEQ ha2 hb2).mp z)) (fun z => kf (fun e => z ((pk_lEQ ha2 hb2).mpr e)))
theorem ce_if_neL {x : Int32} {a b : Nat} {off : Int} {tgt : Nat} (d : decode Y.2.1 pc = .ok (.ifCond .ne off, 3)) (ht : (pc : Int) + off = (tgt : Int)) (hx : x = lg_cmp (lN a) (lN b)) (ha : a < 9223372036854775808) (hb : b < 9223372036854775808) (kt : a ≠ b → ce_WP ρ Y kc ks tgt L st σ g Q X) (kf : a = b → ce_WP ρ Y kc ks (pc + 3) L st σ g Q X) : ce_WP ρ Y kc ks pc L (.int x :: st) σ g Q X := by
  have ha2 : a < 2 ^ 63 := by omega
  have hb2 : b < 2 ^ 63 := by omega
  exact ce_if_neC d ht hx (fun z => kt (fun e => z ((pk_lEQ ha2 hb2).mpr e))) (fun z => kf ((pk_lEQ ha2 hb2).mp z))
theorem ce_if_ltL {x : Int32} {a b : Nat} {off : Int} {tgt : Nat} (d : decode Y.2.1 pc = .ok (.ifCond .lt off, 3)) (ht : (pc : Int) + off = (tgt : Int)) (hx : x = lg_cmp (lN a) (lN b)) (ha : a < 9223372036854775808) (hb : b < 9223372036854775808) (kt : a < b → ce_WP ρ Y kc ks tgt L st σ g Q X) (kf : b ≤ a → ce_WP ρ Y kc ks (pc + 3) L st σ g Q X) : ce_WP ρ Y kc ks pc L (.int x :: st) σ g Q X := by
  have ha2 : a < 2 ^ 63 := by omega
  have hb2 : b < 2 ^ 63 := by omega
  exact ce_if_ltC d ht hx (fun z => kt ((pk_lLT ha2 hb2).mp z)) (fun z => kf (Nat.le_of_not_lt fun e => z ((pk_lLT ha2 hb2).mpr e)))
theorem ce_if_geL {x : Int32} {a b : Nat} {off : Int} {tgt : Nat} (d : decode Y.2.1 pc = .ok (.ifCond .ge off, 3)) (ht : (pc : Int) + off = (tgt : Int)) (hx : x = lg_cmp (lN a) (lN b)) (ha : a < 9223372036854775808) (hb : b < 9223372036854775808) (kt : b ≤ a → ce_WP ρ Y kc ks tgt L st σ g Q X) (kf : a < b → ce_WP ρ Y kc ks (pc + 3) L st σ g Q X) : ce_WP ρ Y kc ks pc L (.int x :: st) σ g Q X := by
  have ha2 : a < 2 ^ 63 := by omega
  have hb2 : b < 2 ^ 63 := by omega
  exact ce_if_geC d ht hx (fun z => kt (Nat.le_of_not_lt fun e => z ((pk_lLT ha2 hb2).mpr e))) (fun z => kf ((pk_lLT ha2 hb2).mp z))
theorem ce_if_gtL {x : Int32} {a b : Nat} {off : Int} {tgt : Nat} (d : decode Y.2.1 pc = .ok (.ifCond .gt off, 3)) (ht : (pc : Int) + off = (tgt : Int)) (hx : x = lg_cmp (lN a) (lN b)) (ha : a < 9223372036854775808) (hb : b < 9223372036854775808) (kt : b < a → ce_WP ρ Y kc ks tgt L st σ g Q X) (kf : a ≤ b → ce_WP ρ Y kc ks (pc + 3) L st σ g Q X) : ce_WP ρ Y kc ks pc L (.int x :: st) σ g Q X := by
  have ha2 : a < 2 ^ 63 := by omega
  have hb2 : b < 2 ^ 63 := by omega
  exact ce_if_gtC d ht hx (fun z => kt ((pk_lLT hb2 ha2).mp z)) (fun z => kf (Nat.le_of_not_lt fun e => z ((pk_lLT hb2 ha2).mpr e)))
theorem ce_if_leL {x : Int32} {a b : Nat} {off : Int} {tgt : Nat} (d : decode Y.2.1 pc = .ok (.ifCond .le off, 3)) (ht : (pc : Int) + off = (tgt : Int)) (hx : x = lg_cmp (lN a) (lN b)) (ha : a < 9223372036854775808) (hb : b < 9223372036854775808) (kt : a ≤ b → ce_WP ρ Y kc ks tgt L st σ g Q X) (kf : b < a → ce_WP ρ Y kc ks (pc + 3) L st σ g Q X) : ce_WP ρ Y kc ks pc L (.int x :: st) σ g Q X := by
  have ha2 : a < 2 ^ 63 := by omega
  have hb2 : b < 2 ^ 63 := by omega
  exact ce_if_leC d ht hx (fun z => kt (Nat.le_of_not_lt fun e => z ((pk_lLT hb2 ha2).mpr e))) (fun z => kf ((pk_lLT hb2 ha2).mp z))
end KMA
theorem kv_36 {K : ce_V} {a B : Nat} (h : ∀ w, w < 6 → kv_sum K a w ≤ B) : ce_sum (K a) 36 ≤ 6 * B := by
  rw [ce_sum_36]
  have := ce_sum_le2 (f := fun w => ce_sum (fun m => K a (m * 6 + w)) 6) (f1 := fun _ => B) (n := 6) (fun j hj => h j hj)
  simp only [ce_sum] at this ⊢
  omega
theorem ce_sum_bd {f : Nat → Nat} {B : Nat} : ∀ {n : Nat}, (∀ j, j < n → f j ≤ B) → ce_sum f n ≤ n * B
  | 0, _ => by rw [ce_sum]; omega
  | n + 1, h => by
    have h1 := ce_sum_bd (f := f) (B := B) (n := n) (fun j hj => h j (by omega))
    have h2 := h n (by omega)
    rw [ce_sum, Nat.succ_mul]
    omega
/-- how great the numbers are -/
theorem kv_cl.b {K : ce_V} (h : kv_cl K) : K 0 0 ≤ 6 ∧ K 0 1 ≤ 6 ∧ K 0 2 ≤ 8 := ⟨h.me, h.wi, h.i7⟩
theorem kv_cl.b9 {K : ce_V} (h : kv_cl K) : ce_sum (K 9) 36 ≤ 360 := kv_36 (B := 60) (fun w hw => by have := h.bo w hw; omega)
theorem kv_cl.b10 {K : ce_V} (h : kv_cl K) : ce_sum (K 10) 36 ≤ 360 := kv_36 (B := 60) (fun w hw => by have := h.bo w hw; omega)
theorem kv_cl.b4 {K : ce_V} (h : kv_cl K) : ce_sum (K 4) 6 ≤ 360 := ce_sum_bd (B := 60) (fun w hw => by have := h.bo w hw; omega)
theorem kv_cl.bem {K : ce_V} (h : kv_cl K) : kv_emp K (K 0 2) ≤ 8 := Nat.le_trans (kv_emp_le _ _) h.i7
theorem kv_cl.brm {K : ce_V} (h : kv_cl K) : ce_sum (fun b => K 11 b - K 12 b) (K 0 2) ≤ 192 := by
  have h1 := ce_sum_bd (f := fun b => K 11 b - K 12 b) (B := 24) (n := K 0 2) (fun j _ => by have := h.rk.2.1 j; omega)
  have := h.i7
  omega
theorem kv_cl.bro {K : ce_V} (h : kv_cl K) (w : Nat) : ce_sum (kv_room K w) (K 0 2) ≤ 192 := by
  have h1 := ce_sum_bd (f := kv_room K w) (B := 24) (n := K 0 2) (fun j _ => by have := h.rk.2.1 j; unfold kv_room; split <;> omega)
  have := h.i7
  omega
theorem kv_cl.bm9 {K : ce_V} (h : kv_cl K) {m : Nat} (hm : m < 6) : ce_sum (fun w => K 9 (m * 6 + w)) 6 ≤ 360 := ce_sum_bd (B := 60) (fun w hw => (h.le hm hw).2.1)
theorem kv_cl.bm10 {K : ce_V} (h : kv_cl K) {m : Nat} (hm : m < 6) : ce_sum (fun w => K 10 (m * 6 + w)) 6 ≤ 360 := ce_sum_bd (B := 60) (fun w hw => (h.le hm hw).2.2.1)
theorem kv_cl.b7 {K : ce_V} (h : kv_cl K) (w : Nat) : kv_sum K 7 w ≤ 360 := ce_sum_bd (B := 60) (fun m _ => h.od _)
/-- .. of an object -/
theorem q_about0 {a : Nat} {S : ks_S} {σ0 σ : ce_S} {g0 g : ce_D} (hw : kw a S σ0 g0 σ g) (iv : kl_iv S) : ce_CT (ce_rl 0 0) mL_about [.ref a, .int (nI 0)] σ g (ce_jv (lN (sK S 0 0)) σ g) ce_no := by
  have hb : sK S 0 0 ≤ 100000 := by
    have := iv.ok.1.b; omega
  have h := h_about_p (nI 0) hw (fun b hX hr => m_X7_about_ok0 a b S hX hr iv.ok)
  rw [nI_l (by omega)] at h
  exact h
theorem q_about1 {a : Nat} {S : ks_S} {σ0 σ : ce_S} {g0 g : ce_D} (hw : kw a S σ0 g0 σ g) (iv : kl_iv S) : ce_CT (ce_rl 0 0) mL_about [.ref a, .int (nI 1)] σ g (ce_jv (lN (sK S 0 1)) σ g) ce_no := by
  have hb : sK S 0 1 ≤ 100000 := by
    have := iv.ok.1.b; omega
  have h := h_about_p (nI 1) hw (fun b hX hr => m_X7_about_ok1 a b S hX hr iv.ok)
  rw [nI_l (by omega)] at h
  exact h
theorem q_about2 {a : Nat} {S : ks_S} {σ0 σ : ce_S} {g0 g : ce_D} (hw : kw a S σ0 g0 σ g) (iv : kl_iv S) : ce_CT (ce_rl 0 0) mL_about [.ref a, .int (nI 2)] σ g (ce_jv (lN (sK S 0 2)) σ g) ce_no := by
  have hb : sK S 0 2 ≤ 100000 := by
    have := iv.ok.1.b; omega
  have h := h_about_p (nI 2) hw (fun b hX hr => m_X7_about_ok2 a b S hX hr iv.ok)
  rw [nI_l (by omega)] at h
  exact h
theorem q_about3 {a : Nat} {S : ks_S} {σ0 σ : ce_S} {g0 g : ce_D} (hw : kw a S σ0 g0 σ g) (iv : kl_iv S) : ce_CT (ce_rl 0 0) mL_about [.ref a, .int (nI 3)] σ g (ce_jv (lN (ce_sum (sK S 9) 36)) σ g) ce_no := by
  have hb : ce_sum (sK S 9) 36 ≤ 100000 := by
    have := iv.ok.1.b9; omega
  have h := h_about_p (nI 3) hw (fun b hX hr => m_X7_about_ok3 a b S hX hr iv.ok)
  rw [nI_l (by omega)] at h
  exact h
theorem q_about4 {a : Nat} {S : ks_S} {σ0 σ : ce_S} {g0 g : ce_D} (hw : kw a S σ0 g0 σ g) (iv : kl_iv S) : ce_CT (ce_rl 0 0) mL_about [.ref a, .int (nI 4)] σ g (ce_jv (lN (ce_sum (sK S 10) 36)) σ g) ce_no := by
  have hb : ce_sum (sK S 10) 36 ≤ 100000 := by
    have := iv.ok.1.b10; omega
  have h := h_about_p (nI 4) hw (fun b hX hr => m_X7_about_ok4 a b S hX hr iv.ok)
  rw [nI_l (by omega)] at h
  exact h
theorem q_about5 {a : Nat} {S : ks_S} {σ0 σ : ce_S} {g0 g : ce_D} (hw : kw a S σ0 g0 σ g) (iv : kl_iv S) : ce_CT (ce_rl 0 0) mL_about [.ref a, .int (nI 5)] σ g (ce_jv (lN (ce_sum (sK S 6) 6)) σ g) ce_no := by
  have hb : ce_sum (sK S 6) 6 ≤ 100000 := by
    have := kj_s6 iv.ok.1; omega
  have h := h_about_p (nI 5) hw (fun b hX hr => m_X7_about_ok5 a b S hX hr iv.ok)
  rw [nI_l (by omega)] at h
  exact h
theorem q_about6 {a : Nat} {S : ks_S} {σ0 σ : ce_S} {g0 g : ce_D} (hw : kw a S σ0 g0 σ g) (iv : kl_iv S) : ce_CT (ce_rl 0 0) mL_about [.ref a, .int (nI 6)] σ g (ce_jv (lN (ce_sum (sK S 4) 6)) σ g) ce_no := by
  have hb : ce_sum (sK S 4) 6 ≤ 100000 := by
    have := iv.ok.1.b4; omega
  have h := h_about_p (nI 6) hw (fun b hX hr => m_X7_about_ok6 a b S hX hr iv.ok)
  rw [nI_l (by omega)] at h
  exact h
theorem q_about7 {a : Nat} {S : ks_S} {σ0 σ : ce_S} {g0 g : ce_D} (hw : kw a S σ0 g0 σ g) (iv : kl_iv S) : ce_CT (ce_rl 0 0) mL_about [.ref a, .int (nI 7)] σ g (ce_jv ((ce_isum (sO S) 6).toInt64) σ g) ce_no := h_about_p (nI 7) hw (fun b hX hr => m_X7_about_ok7 a b S hX hr iv.ok)
theorem q_about8 {a : Nat} {S : ks_S} {σ0 σ : ce_S} {g0 g : ce_D} (hw : kw a S σ0 g0 σ g) (iv : kl_iv S) : ce_CT (ce_rl 0 0) mL_about [.ref a, .int (nI 8)] σ g (ce_jv (lN (kv_emp (sK S) (sK S 0 2))) σ g) ce_no := by
  have hb : kv_emp (sK S) (sK S 0 2) ≤ 100000 := by
    have := iv.ok.1.bem; omega
  have h := h_about_p (nI 8) hw (fun b hX hr => m_X7_about_ok8 a b S hX hr iv.ok)
  rw [nI_l (by omega)] at h
  exact h
theorem q_about9 {a : Nat} {S : ks_S} {σ0 σ : ce_S} {g0 g : ce_D} (hw : kw a S σ0 g0 σ g) (iv : kl_iv S) : ce_CT (ce_rl 0 0) mL_about [.ref a, .int (nI 9)] σ g (ce_jv (lN (ce_sum (fun b => sK S 11 b - sK S 12 b) (sK S 0 2))) σ g) ce_no := by
  have hb : ce_sum (fun b => sK S 11 b - sK S 12 b) (sK S 0 2) ≤ 100000 := by
    have := iv.ok.1.brm; omega
  have h := h_about_p (nI 9) hw (fun b hX hr => m_X7_about_ok9 a b S hX hr iv.ok)
  rw [nI_l (by omega)] at h
  exact h
theorem q_member0 {a : Nat} {S : ks_S} {σ0 σ : ce_S} {g0 g : ce_D} (hw : kw a S σ0 g0 σ g) (iv : kl_iv S) {m : Nat} (hm : m < sK S 0 0) : ce_CT (ce_rl 0 0) mL_member [.ref a, .int (nI m), .int (nI 0)] σ g (ce_jv (lN (sK S 1 m)) σ g) ce_no := by
  have hb : sK S 1 m ≤ 100000 := by
    have := iv.ok.1.po m; omega
  have h := h_member_p (nI m) (nI 0) hw (fun b hX hr => m_X7_member_ok0 a b S hX hr iv.ok m hm)
  rw [nI_l (by omega)] at h
  exact h
theorem q_member1 {a : Nat} {S : ks_S} {σ0 σ : ce_S} {g0 g : ce_D} (hw : kw a S σ0 g0 σ g) (iv : kl_iv S) {m : Nat} (hm : m < sK S 0 0) : ce_CT (ce_rl 0 0) mL_member [.ref a, .int (nI m), .int (nI 1)] σ g (ce_jv ((sO S m).toInt64) σ g) ce_no := h_member_p (nI m) (nI 1) hw (fun b hX hr => m_X7_member_ok1 a b S hX hr iv.ok m hm)
theorem q_member2 {a : Nat} {S : ks_S} {σ0 σ : ce_S} {g0 g : ce_D} (hw : kw a S σ0 g0 σ g) (iv : kl_iv S) {m : Nat} (hm : m < sK S 0 0) : ce_CT (ce_rl 0 0) mL_member [.ref a, .int (nI m), .int (nI 2)] σ g (ce_jv (lN (ce_sum (fun w => sK S 9 (m * 6 + w)) 6)) σ g) ce_no := by
  have hb : ce_sum (fun w => sK S 9 (m * 6 + w)) 6 ≤ 100000 := by
    have h6 := iv.ok.1.me; have := iv.ok.1.bm9 (m := m) (by omega); omega
  have h := h_member_p (nI m) (nI 2) hw (fun b hX hr => m_X7_member_ok2 a b S hX hr iv.ok m hm)
  rw [nI_l (by omega)] at h
  exact h
theorem q_member3 {a : Nat} {S : ks_S} {σ0 σ : ce_S} {g0 g : ce_D} (hw : kw a S σ0 g0 σ g) (iv : kl_iv S) {m : Nat} (hm : m < sK S 0 0) : ce_CT (ce_rl 0 0) mL_member [.ref a, .int (nI m), .int (nI 3)] σ g (ce_jv (lN (ce_sum (fun w => sK S 10 (m * 6 + w)) 6)) σ g) ce_no := by
  have hb : ce_sum (fun w => sK S 10 (m * 6 + w)) 6 ≤ 100000 := by
    have h6 := iv.ok.1.me; have := iv.ok.1.bm10 (m := m) (by omega); omega
  have h := h_member_p (nI m) (nI 3) hw (fun b hX hr => m_X7_member_ok3 a b S hX hr iv.ok m hm)
  rw [nI_l (by omega)] at h
  exact h
theorem q_wine0 {a : Nat} {S : ks_S} {σ0 σ : ce_S} {g0 g : ce_D} (hw : kw a S σ0 g0 σ g) (iv : kl_iv S) {w : Nat} (hw6 : w < sK S 0 1) : ce_CT (ce_rl 0 0) mL_wine [.ref a, .int (nI w), .int (nI 0)] σ g (ce_jv (lN (sK S 2 w)) σ g) ce_no := by
  have hb : sK S 2 w ≤ 100000 := by
    have := iv.ok.1.pr w; omega
  have h := h_wine_p (nI w) (nI 0) hw (fun b hX hr => m_X7_wine_ok0 a b S hX hr iv.ok w hw6)
  rw [nI_l (by omega)] at h
  exact h
theorem q_wine1 {a : Nat} {S : ks_S} {σ0 σ : ce_S} {g0 g : ce_D} (hw : kw a S σ0 g0 σ g) (iv : kl_iv S) {w : Nat} (hw6 : w < sK S 0 1) : ce_CT (ce_rl 0 0) mL_wine [.ref a, .int (nI w), .int (nI 1)] σ g (ce_jv (lN (sK S 3 w)) σ g) ce_no := by
  have hb : sK S 3 w ≤ 100000 := by
    have h6 := iv.ok.1.wi; have := iv.ok.1.bo w (by omega); omega
  have h := h_wine_p (nI w) (nI 1) hw (fun b hX hr => m_X7_wine_ok1 a b S hX hr iv.ok w hw6)
  rw [nI_l (by omega)] at h
  exact h
theorem q_wine2 {a : Nat} {S : ks_S} {σ0 σ : ce_S} {g0 g : ce_D} (hw : kw a S σ0 g0 σ g) (iv : kl_iv S) {w : Nat} (hw6 : w < sK S 0 1) : ce_CT (ce_rl 0 0) mL_wine [.ref a, .int (nI w), .int (nI 2)] σ g (ce_jv (lN (sK S 4 w)) σ g) ce_no := by
  have hb : sK S 4 w ≤ 100000 := by
    have h6 := iv.ok.1.wi; have := iv.ok.1.bo w (by omega); omega
  have h := h_wine_p (nI w) (nI 2) hw (fun b hX hr => m_X7_wine_ok2 a b S hX hr iv.ok w hw6)
  rw [nI_l (by omega)] at h
  exact h
theorem q_wine3 {a : Nat} {S : ks_S} {σ0 σ : ce_S} {g0 g : ce_D} (hw : kw a S σ0 g0 σ g) (iv : kl_iv S) {w : Nat} (hw6 : w < sK S 0 1) : ce_CT (ce_rl 0 0) mL_wine [.ref a, .int (nI w), .int (nI 3)] σ g (ce_jv (lN (sK S 5 w)) σ g) ce_no := by
  have hb : sK S 5 w ≤ 100000 := by
    have := iv.ok.1.st w; omega
  have h := h_wine_p (nI w) (nI 3) hw (fun b hX hr => m_X7_wine_ok3 a b S hX hr iv.ok w hw6)
  rw [nI_l (by omega)] at h
  exact h
theorem q_wine4 {a : Nat} {S : ks_S} {σ0 σ : ce_S} {g0 g : ce_D} (hw : kw a S σ0 g0 σ g) (iv : kl_iv S) {w : Nat} (hw6 : w < sK S 0 1) : ce_CT (ce_rl 0 0) mL_wine [.ref a, .int (nI w), .int (nI 4)] σ g (ce_jv (lN (kv_sum (sK S) 9 w)) σ g) ce_no := by
  have hb : kv_sum (sK S) 9 w ≤ 100000 := by
    have h6 := iv.ok.1.wi; have := iv.ok.1.bo w (by omega); omega
  have h := h_wine_p (nI w) (nI 4) hw (fun b hX hr => m_X7_wine_ok4 a b S hX hr iv.ok w hw6)
  rw [nI_l (by omega)] at h
  exact h
theorem q_wine5 {a : Nat} {S : ks_S} {σ0 σ : ce_S} {g0 g : ce_D} (hw : kw a S σ0 g0 σ g) (iv : kl_iv S) {w : Nat} (hw6 : w < sK S 0 1) : ce_CT (ce_rl 0 0) mL_wine [.ref a, .int (nI w), .int (nI 5)] σ g (ce_jv (lN (kv_sum (sK S) 10 w)) σ g) ce_no := by
  have hb : kv_sum (sK S) 10 w ≤ 100000 := by
    have h6 := iv.ok.1.wi; have := iv.ok.1.bo w (by omega); omega
  have h := h_wine_p (nI w) (nI 5) hw (fun b hX hr => m_X7_wine_ok5 a b S hX hr iv.ok w hw6)
  rw [nI_l (by omega)] at h
  exact h
theorem q_wine6 {a : Nat} {S : ks_S} {σ0 σ : ce_S} {g0 g : ce_D} (hw : kw a S σ0 g0 σ g) (iv : kl_iv S) {w : Nat} (hw6 : w < sK S 0 1) : ce_CT (ce_rl 0 0) mL_wine [.ref a, .int (nI w), .int (nI 6)] σ g (ce_jv (lN (sK S 6 w)) σ g) ce_no := by
  have hb : sK S 6 w ≤ 100000 := by
    have h6 := iv.ok.1.wi; have := iv.ok.1.bo w (by omega); omega
  have h := h_wine_p (nI w) (nI 6) hw (fun b hX hr => m_X7_wine_ok6 a b S hX hr iv.ok w hw6)
  rw [nI_l (by omega)] at h
  exact h
theorem q_wine7 {a : Nat} {S : ks_S} {σ0 σ : ce_S} {g0 g : ce_D} (hw : kw a S σ0 g0 σ g) (iv : kl_iv S) {w : Nat} (hw6 : w < sK S 0 1) : ce_CT (ce_rl 0 0) mL_wine [.ref a, .int (nI w), .int (nI 7)] σ g (ce_jv (lN (kv_sum (sK S) 8 w)) σ g) ce_no := by
  have hb : kv_sum (sK S) 8 w ≤ 100000 := by
    have h6 := iv.ok.1.wi; have := iv.ok.1.bo w (by omega); omega
  have h := h_wine_p (nI w) (nI 7) hw (fun b hX hr => m_X7_wine_ok7 a b S hX hr iv.ok w hw6)
  rw [nI_l (by omega)] at h
  exact h
theorem q_wine8 {a : Nat} {S : ks_S} {σ0 σ : ce_S} {g0 g : ce_D} (hw : kw a S σ0 g0 σ g) (iv : kl_iv S) {w : Nat} (hw6 : w < sK S 0 1) : ce_CT (ce_rl 0 0) mL_wine [.ref a, .int (nI w), .int (nI 8)] σ g (ce_jv (lN (kv_sum (sK S) 7 w)) σ g) ce_no := by
  have hb : kv_sum (sK S) 7 w ≤ 100000 := by
    have := iv.ok.1.b7 w; omega
  have h := h_wine_p (nI w) (nI 8) hw (fun b hX hr => m_X7_wine_ok8 a b S hX hr iv.ok w hw6)
  rw [nI_l (by omega)] at h
  exact h
theorem q_bin0 {a : Nat} {S : ks_S} {σ0 σ : ce_S} {g0 g : ce_D} (hw : kw a S σ0 g0 σ g) (iv : kl_iv S) {i : Nat} (hi : i < sK S 0 2) : ce_CT (ce_rl 0 0) mL_bin [.ref a, .int (nI i), .int (nI 0)] σ g (ce_jv (lN (sK S 11 i)) σ g) ce_no := by
  have hb : sK S 11 i ≤ 100000 := by
    have := iv.ok.1.rk.2.1 i; omega
  have h := h_bin_p (nI i) (nI 0) hw (fun b hX hr => m_X7_bin_ok0 a b S hX hr iv.ok i hi)
  rw [nI_l (by omega)] at h
  exact h
theorem q_bin1 {a : Nat} {S : ks_S} {σ0 σ : ce_S} {g0 g : ce_D} (hw : kw a S σ0 g0 σ g) (iv : kl_iv S) {i : Nat} (hi : i < sK S 0 2) : ce_CT (ce_rl 0 0) mL_bin [.ref a, .int (nI i), .int (nI 1)] σ g (ce_jv ((ce_wi (sK S) i).toInt64) σ g) ce_no := h_bin_p (nI i) (nI 1) hw (fun b hX hr => m_X7_bin_ok1 a b S hX hr iv.ok i hi)
theorem q_bin2 {a : Nat} {S : ks_S} {σ0 σ : ce_S} {g0 g : ce_D} (hw : kw a S σ0 g0 σ g) (iv : kl_iv S) {i : Nat} (hi : i < sK S 0 2) : ce_CT (ce_rl 0 0) mL_bin [.ref a, .int (nI i), .int (nI 2)] σ g (ce_jv (lN (sK S 12 i)) σ g) ce_no := by
  have hb : sK S 12 i ≤ 100000 := by
    have := iv.ok.1.rk.2.1 i; omega
  have h := h_bin_p (nI i) (nI 2) hw (fun b hX hr => m_X7_bin_ok2 a b S hX hr iv.ok i hi)
  rw [nI_l (by omega)] at h
  exact h
theorem q_has0 {a : Nat} {S : ks_S} {σ0 σ : ce_S} {g0 g : ce_D} (hw : kw a S σ0 g0 σ g) (iv : kl_iv S) {m w : Nat} (hm : m < sK S 0 0) (hw6 : w < sK S 0 1) : ce_CT (ce_rl 0 0) mL_has [.ref a, .int (nI m), .int (nI w), .int (nI 0)] σ g (ce_jv (lN (sK S 7 (m * 6 + w))) σ g) ce_no := by
  have hb : sK S 7 (m * 6 + w) ≤ 100000 := by
    have h6 := iv.ok.1.me; have h7 := iv.ok.1.wi; have := iv.ok.1.le (m := m) (w := w) (by omega) (by omega); have h8 := iv.ok.1.od (m * 6 + w); omega
  have h := h_has_p (nI m) (nI w) (nI 0) hw (fun b hX hr => m_X7_has_ok0 a b S hX hr iv.ok m w hm hw6)
  rw [nI_l (by omega)] at h
  exact h
theorem q_has1 {a : Nat} {S : ks_S} {σ0 σ : ce_S} {g0 g : ce_D} (hw : kw a S σ0 g0 σ g) (iv : kl_iv S) {m w : Nat} (hm : m < sK S 0 0) (hw6 : w < sK S 0 1) : ce_CT (ce_rl 0 0) mL_has [.ref a, .int (nI m), .int (nI w), .int (nI 1)] σ g (ce_jv (lN (sK S 8 (m * 6 + w))) σ g) ce_no := by
  have hb : sK S 8 (m * 6 + w) ≤ 100000 := by
    have h6 := iv.ok.1.me; have h7 := iv.ok.1.wi; have := iv.ok.1.le (m := m) (w := w) (by omega) (by omega); have h8 := iv.ok.1.od (m * 6 + w); omega
  have h := h_has_p (nI m) (nI w) (nI 1) hw (fun b hX hr => m_X7_has_ok1 a b S hX hr iv.ok m w hm hw6)
  rw [nI_l (by omega)] at h
  exact h
theorem q_has2 {a : Nat} {S : ks_S} {σ0 σ : ce_S} {g0 g : ce_D} (hw : kw a S σ0 g0 σ g) (iv : kl_iv S) {m w : Nat} (hm : m < sK S 0 0) (hw6 : w < sK S 0 1) : ce_CT (ce_rl 0 0) mL_has [.ref a, .int (nI m), .int (nI w), .int (nI 2)] σ g (ce_jv (lN (sK S 9 (m * 6 + w))) σ g) ce_no := by
  have hb : sK S 9 (m * 6 + w) ≤ 100000 := by
    have h6 := iv.ok.1.me; have h7 := iv.ok.1.wi; have := iv.ok.1.le (m := m) (w := w) (by omega) (by omega); have h8 := iv.ok.1.od (m * 6 + w); omega
  have h := h_has_p (nI m) (nI w) (nI 2) hw (fun b hX hr => m_X7_has_ok2 a b S hX hr iv.ok m w hm hw6)
  rw [nI_l (by omega)] at h
  exact h
theorem q_room {a : Nat} {S : ks_S} {σ0 σ : ce_S} {g0 g : ce_D} (hw : kw a S σ0 g0 σ g) (iv : kl_iv S) {w : Nat} (hw6 : w < sK S 0 1) : ce_CT (ce_rl 0 0) mL_roomFor [.ref a, .int (nI w)] σ g (ce_jv (lN (ce_sum (kv_room (sK S) w) (sK S 0 2))) σ g) ce_no := by
  have hb : ce_sum (kv_room (sK S) w) (sK S 0 2) ≤ 100000 := by
    have := iv.ok.1.bro w; omega
  have h := h_roomFor_p (nI w) hw (fun b hX hr => m_X7_roomFor_ok a b S hX hr iv.ok w hw6)
  rw [nI_l (by omega)] at h
  exact h
theorem q_wg0 {a : Nat} {S : ks_S} {σ0 σ : ce_S} {g0 g : ce_D} (hw : kw a S σ0 g0 σ g) (iv : kl_iv S) {m w : Nat} (hm : m < sK S 0 0) (hw6 : w < sK S 0 1) (h5 : sK S 5 w ≠ 0) : ce_CT (ce_rl 0 0) mL_wouldGet [.ref a, .int (nI m), .int (nI w)] σ g (ce_jv ((-99999 : Int64)) σ g) ce_no := h_wouldGet_p (nI m) (nI w) hw (fun b hX hr => m_X7_wouldGet_ok2 a b S hX hr iv.ok m w hm hw6 h5)
theorem q_sh0 {a : Nat} {S : ks_S} {σ0 σ : ce_S} {g0 g : ce_D} (hw : kw a S σ0 g0 σ g) (iv : kl_iv S) {w : Nat} (hw6 : w < sK S 0 1) (h5 : sK S 5 w ≠ 0) : ce_CT (ce_rl 0 0) mL_shortest [.ref a, .int (nI w)] σ g (ce_jv ((-99999 : Int64)) σ g) ce_no := h_shortest_p (nI w) hw (fun b hX hr => m_X7_shortest_ok2 a b S hX hr iv.ok w hw6 h5)
theorem kv_allI {K : ce_V} {w : Nat} (hw : w < 100000) : kv_allF K (nI w) = 0 ↔ w < K 0 1 ∧ K 5 w = 0 := by
  unfold kv_allF
  rw [ce_n_nI (by omega)]
  by_cases e : w < K 0 1
  · rw [if_pos ((ce_in_nI hw).mpr e)]
    by_cases h : K 5 w = 0
    · rw [if_pos h]; exact ⟨fun _ => ⟨e, h⟩, fun _ => rfl⟩
    · rw [if_neg h]; exact ⟨fun z => (by cases z), fun z => absurd z.2 h⟩
  · rw [if_neg (fun z => e ((ce_in_nI hw).mp z))]
    exact ⟨fun z => (by cases z), fun z => absurd z.1 e⟩
theorem q_wg {a : Nat} {S : ks_S} {σ0 σ : ce_S} {g0 g : ce_D} (hw : kw a S σ0 g0 σ g) (iv : kl_iv S) {m w : Nat} (hm : m < sK S 0 0) (hw6 : w < sK S 0 1) (h5 : sK S 5 w = 0) : ce_CT (ce_rl 0 1) mL_wouldGet [.ref a, .int (nI m), .int (nI w)] σ g (kq σ0 g0 a S (lN (kv_all (sK S) w 8 (m * 6 + w)))) ce_no := by
  have hb := kv_all_8 iv.ok.1 (w := w) (by have := iv.ok.1.wi; omega) m
  have h := h_wouldGet_ok (nI m) (nI w) hw (fun b hX hr => kl_of_r hX (m_X7_wouldGet_ok a b S hX hr iv.ok m w hm hw6 h5 ((kv_allI (by have := iv.ok.1.wi; omega)).mpr ⟨hw6, h5⟩)))
  rw [nI_l (by omega)] at h
  exact h
theorem q_sh {a : Nat} {S : ks_S} {σ0 σ : ce_S} {g0 g : ce_D} (hw : kw a S σ0 g0 σ g) (iv : kl_iv S) {w : Nat} (hw6 : w < sK S 0 1) (h5 : sK S 5 w = 0) : ce_CT (ce_rl 0 1) mL_shortest [.ref a, .int (nI w)] σ g (kq σ0 g0 a S (ce_o (kx_sh (sK S) w (sK S 0 0)).1).toInt64) ce_no :=
  h_shortest_ok (nI w) hw (fun b hX hr => kl_of_r hX (m_X7_shortest_ok a b S hX hr iv.ok w hw6 h5 ((kv_allI (by have := iv.ok.1.wi; omega)).mpr ⟨hw6, h5⟩)))
