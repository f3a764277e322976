/-! making: what lies where, each cell new -/
section CFA
def ce_ri (d c k : Nat) : Room := { frames := d, cells := c, slots := k, locals := 32 * d }
abbrev ci_T : Type := Nat → Nat × Nat × (Nat → Option Nat)
def ci_pt (σ : ce_S) (g : ce_D) (c : Nat) (S : ci_T) (n : Nat) : Prop := ∀ i, i < n → ce_kd σ (c + i) = (S i).1 ∧ ce_ln σ (c + i) = (S i).2.1 ∧ (∀ k, ce_gr σ (c + i) k = ((S i).2.2 k).map (fun j => c + j)) ∧ g (c + i) = fun _ => 0
def ci_sh (σ : ce_S) (g : ce_D) (c : Nat) (S : ci_T) (n : Nat) : Prop := σ.1 = c + n ∧ ci_pt σ g c S n
def ci_sb (t : Nat) (σ : ce_S) (g : ce_D) (σ' : ce_S) (g' : ce_D) : Prop := ∀ x, x < t → ce_kd σ' x = ce_kd σ x ∧ ce_ln σ' x = ce_ln σ x ∧ ce_gr σ' x = ce_gr σ x ∧ ce_gl σ' x = ce_gl σ x ∧ g' x = g x
def ci_o (k : Nat) : ci_T := fun _ => (k, 0, fun _ => none)
def ci_add (S : ci_T) (n K len : Nat) : ci_T := fun i => if i = n then (K, len, fun _ => none) else S i
def ci_fld (S : ci_T) (i k j : Nat) : ci_T := fun x => if x = i then ((S x).1, (S x).2.1, fun y => if y = k then some j else (S x).2.2 y) else S x
def ci_in (S : ci_T) (m : Nat) (T : ci_T) : ci_T := fun i => if i < m then S i else ((T (i - m)).1, (T (i - m)).2.1, fun k => ((T (i - m)).2.2 k).map (fun j => m + j))
theorem ci_sb.rf {t : Nat} {σ : ce_S} {g : ce_D} : ci_sb t σ g σ g := fun _ _ => ⟨rfl, rfl, rfl, rfl, rfl⟩
theorem ci_sb.tr {t : Nat} {σ σ1 σ2 : ce_S} {g g1 g2 : ce_D} (h : ci_sb t σ g σ1 g1) (k : ci_sb t σ1 g1 σ2 g2) : ci_sb t σ g σ2 g2 := fun x hx => by
  obtain ⟨a1, a2, a3, a4, a5⟩ := h x hx
  obtain ⟨b1, b2, b3, b4, b5⟩ := k x hx
  exact ⟨b1.trans a1, b2.trans a2, b3.trans a3, b4.trans a4, b5.trans a5⟩
theorem ci_sb.mo {t u : Nat} {σ σ1 : ce_S} {g g1 : ce_D} (h : ci_sb t σ g σ1 g1) (e : u ≤ t) : ci_sb u σ g σ1 g1 := fun x hx => h x (by omega)
theorem ci_sb.nw {t K len : Nat} {σ : ce_S} {g : ce_D} (e : t ≤ σ.1) : ci_sb t σ g (ce_nw σ K len) (ce_nd σ g) := fun x hx => ⟨if_neg (by omega), if_neg (by omega), if_neg (by omega), if_neg (by omega), if_neg (by omega)⟩
theorem ci_sb.up {t a k : Nat} {r : Option Nat} {σ : ce_S} {g : ce_D} (e : t ≤ a) : ci_sb t σ g (ce_upR σ a k r) g := fun x hx => ⟨rfl, rfl, ce_upR_ne σ k r (by omega), rfl, rfl⟩
theorem sh_add {σ : ce_S} {g : ce_D} {c n : Nat} {S : ci_T} (h : ci_sh σ g c S n) (K len : Nat) : ci_sh (ce_nw σ K len) (ce_nd σ g) c (ci_add S n K len) (n + 1) := by
  have ht := h.1
  refine ⟨by show σ.1 + 1 = _; omega, fun i hi => ?_⟩
  unfold ci_add
  by_cases e : i = n
  · rw [if_pos e, e, ← ht]
    exact ⟨ce_nw_kd σ K len, ce_nw_ln σ K len, fun k => by rw [ce_nw_gr]; rfl, ce_nd_at σ g⟩
  · rw [if_neg e]
    obtain ⟨b1, b2, b3, b4, b5⟩ := ci_sb.nw (t := σ.1) (K := K) (len := len) (g := g) (Nat.le_refl _) (c + i) (by omega)
    rw [b1, b2, b3, b5]
    exact h.2 i (by omega)
theorem sh_fld {σ : ce_S} {g : ce_D} {c n : Nat} {S : ci_T} (h : ci_sh σ g c S n) (i k j : Nat) : ci_sh (ce_upR σ (c + i) k (some (c + j))) g c (ci_fld S i k j) n := by
  refine ⟨h.1, fun x hx => ?_⟩
  obtain ⟨h1, h2, h3, h4⟩ := h.2 x hx
  unfold ci_fld
  by_cases e : x = i
  · subst e
    rw [if_pos rfl]
    refine ⟨h1, h2, fun y => ?_, h4⟩
    rw [ce_upR_eq]
    dsimp only
    by_cases q : y = k
    · rw [if_pos q, if_pos q]; rfl
    · rw [if_neg q, if_neg q]; exact h3 y
  · rw [if_neg e]
    exact ⟨h1, h2, fun y => by rw [ce_upR_ne σ k _ (by omega)]; exact h3 y, h4⟩
theorem sh_fl0 {σ : ce_S} {g : ce_D} {c n : Nat} {S : ci_T} (h : ci_sh σ g c S n) (k j : Nat) : ci_sh (ce_upR σ c k (some (c + j))) g c (ci_fld S 0 k j) n := sh_fld h 0 k j
theorem sh_one {σ : ce_S} {g : ce_D} {c n K : Nat} {S : ci_T} (h : ci_sh σ g c S (n + 1)) (e : S n = (K, 0, fun _ => none)) : ci_sh σ g (c + n) (ci_o K) 1 := by
  refine ⟨by rw [h.1]; omega, fun i hi => ?_⟩
  have h9 := h.2 n (by omega)
  rw [e] at h9
  have e0 : i = 0 := by omega
  subst e0
  exact ⟨h9.1, h9.2.1, fun k => h9.2.2.1 k, h9.2.2.2⟩
theorem ci_pt.in {σ : ce_S} {g : ce_D} {c m q : Nat} {T : ci_T} (h : ci_pt σ g (c + m) T q) {i : Nat} (h1 : m ≤ i) (h2 : i < m + q) : ce_kd σ (c + i) = (T (i - m)).1 ∧ ce_ln σ (c + i) = (T (i - m)).2.1 ∧ (∀ k, ce_gr σ (c + i) k = (((T (i - m)).2.2 k).map (fun j => m + j)).map (fun j => c + j)) ∧ g (c + i) = fun _ => 0 := by
  obtain ⟨a1, a2, a3, a4⟩ := h (i - m) (by omega)
  rw [show c + m + (i - m) = c + i by omega] at a1 a2 a3 a4
  refine ⟨a1, a2, fun k => ?_, a4⟩
  rw [a3 k]
  cases (T (i - m)).2.2 k with
  | none => rfl
  | some j => show some (c + m + j) = some (c + (m + j)); rw [Nat.add_assoc]
theorem sh_in {σ σ' : ce_S} {g g' : ce_D} {c n m q : Nat} {S T : ci_T} (h : ci_sh σ g c S n) (hm : m ≤ n) (k : ci_sh σ' g' (c + m) T q) (b : ci_sb (c + m) σ g σ' g') : ci_sh σ' g' c (ci_in S m T) (m + q) := by
  refine ⟨by rw [k.1]; omega, fun i hi => ?_⟩
  unfold ci_in
  by_cases e : i < m
  · rw [if_pos e]
    obtain ⟨b1, b2, b3, b4, b5⟩ := b (c + i) (by omega)
    rw [b1, b2, b3, b5]
    exact h.2 i (by omega)
  · rw [if_neg e]
    exact k.2.in (by omega) hi
theorem ci_pt.sb {σ σ' : ce_S} {g g' : ce_D} {c n t : Nat} {S : ci_T} (h : ci_pt σ g c S n) (b : ci_sb t σ g σ' g') (e : c + n ≤ t) : ci_pt σ' g' c S n := fun i hi => by
  obtain ⟨b1, b2, b3, b4, b5⟩ := b (c + i) (by omega)
  rw [b1, b2, b3, b5]
  exact h i hi
theorem ci_pt.up {σ : ce_S} {g : ce_D} {c n a k : Nat} {r : Option Nat} {S : ci_T} (h : ci_pt σ g c S n) (e : a < c ∨ c + n ≤ a) : ci_pt (ce_upR σ a k r) g c S n := fun i hi => by
  rw [ce_upR_ne σ k r (by omega)]
  exact h i hi
end CFA
section CFB
variable {ρ : Room} {Y : ce_Y} {kc ks pc : Nat} {L : List (Option Value)} {σ : ce_S} {g : ce_D} {Q : Option Value → ce_S → ce_D → Prop} {X : String → ce_S → ce_D → Prop}
theorem ce_cIs {Y' : ce_Y} {ρ' : Room} {n idx b : Nat} {stk As rest : List Value} {P : ce_S → ce_D → Prop} (d : decode Y.2.1 pc = .ok (.invokespecial idx, 3)) (hY : ce_MI Y' n) (hl : Cond.methodLink Y.1.cls idx Y'.1 ∈ lw_tbl) (hC : ce_CT ρ' Y' (.ref b :: As) σ g (ce_sv P) ce_no) (hst : stk = As.reverse ++ .ref b :: rest) (hn : As.length = n) (hR : ce_rm ρ ρ' Y'.2.2.1) (hrest : (rest.map fun v => v.category).sum ≤ 8) (hcc : kc + ρ'.cells ≤ ρ.cells) (hss : ks + ρ'.slots ≤ ρ.slots) (kk : ∀ σ1 g1, P σ1 g1 → ce_WP ρ Y (kc + ρ'.cells) (ks + ρ'.slots) (pc + 3) L rest σ1 g1 Q X) : ce_WP ρ Y kc ks pc L stk σ g Q X := by
  refine ce_callI d hY hl hC hst hn hR hrest hcc hss ?_
  rintro v σ1 g1 ⟨rfl, h1⟩
  exact kk σ1 g1 h1
theorem ce_cINs {Y' : ce_Y} {ρ' : Room} {n idx b : Nat} {host : String} {stk As rest : List Value} {P : ce_S → ce_D → Prop} (d : decode Y.2.1 pc = .ok (.invokespecial idx, 3)) (hY : ce_MI Y' n) (hl : Cond.methodLinkNest Y.1.cls idx Y'.1 host ∈ lw_tbl) (hC : ce_CT ρ' Y' (.ref b :: As) σ g (ce_sv P) ce_no) (hst : stk = As.reverse ++ .ref b :: rest) (hn : As.length = n) (hR : ce_rm ρ ρ' Y'.2.2.1) (hrest : (rest.map fun v => v.category).sum ≤ 8) (hcc : kc + ρ'.cells ≤ ρ.cells) (hss : ks + ρ'.slots ≤ ρ.slots) (kk : ∀ σ1 g1, P σ1 g1 → ce_WP ρ Y (kc + ρ'.cells) (ks + ρ'.slots) (pc + 3) L rest σ1 g1 Q X) : ce_WP ρ Y kc ks pc L stk σ g Q X := by
  refine ce_callIN d hY hl hC hst hn hR hrest hcc hss ?_
  rintro v σ1 g1 ⟨rfl, h1⟩
  exact kk σ1 g1 h1
end CFB
def ci_X5_init : ci_T := ci_fld (ci_add (ci_o 6) 1 10 36) 0 0 1
set_option maxHeartbeats 2000000 in
set_option maxRecDepth 20000 in
theorem m_X5_init {s0 : ce_S} {g0 : ce_D} (h : Nat) (H0 : ci_sh s0 g0 h (ci_o 6) 1) : ce_CT (ce_ri 1 1 36) mX5_init [.ref (h)] s0 g0 (ce_sv (fun s1 g1 => ci_sh s1 g1 h ci_X5_init 2 ∧ ci_sb h s0 g0 s1 g1)) ce_no := by
  refine ce_enter (by decide) rfl (Nat.le_of_ble_eq_true rfl) (L := [some (.ref (h))]) rfl ?_
  have B0 := ci_sb.rf (t := h) (σ := s0) (g := g0)
  refine ce_aload_n dX5_init_0 rfl ?_
  refine ce_objInit dX5_init_1 kRX5_3 wx_oi wx_oc (by decide) (Nat.le_of_ble_eq_true rfl) ?_
  refine ce_aload_n dX5_init_4 rfl ?_
  refine ce_bipush (v := nI (36)) dX5_init_5 (by decide) ?_
  refine ce_newaI dX5_init_7 wa_int rfl (Nat.le_of_ble_eq_true rfl) (Nat.le_of_ble_eq_true rfl) (Nat.le_of_ble_eq_true rfl) ?_
  have H1 : ci_sh (ce_nw s0 10 36) (ce_nd s0 g0) h (ci_add (ci_o 6) 1 10 36) 2 := sh_add H0 10 36
  have B1 := B0.tr (ci_sb.nw (K := 10) (len := 36) (g := g0) (show h ≤ s0.1 by rw [H0.1]; omega))
  rw [H0.1]
  generalize ce_nw s0 10 36 = s1 at H1 B1 ⊢
  generalize ce_nd s0 g0 = g1 at H1 B1 ⊢
  refine ce_putF dX5_init_9 pRX5_9 (show ce_kd s1 h = 5 + 1 from (H1.2 0 (by decide)).1) rfl ?_
  have H2 := sh_fl0 H1 0 1
  have B2 := B1.tr (ci_sb.up (g := g1) (k := 0) (r := some (h + 1)) (Nat.le_refl h))
  generalize ce_upR s1 h 0 (some (h + 1)) = s2 at H2 B2 ⊢
  exact ce_vret dX5_init_12 rfl (Nat.le_of_ble_eq_true rfl) (Nat.le_of_ble_eq_true rfl) ⟨rfl, H2, B2⟩
def ci_X3_init : ci_T := ci_fld (ci_add (ci_fld (ci_add (ci_fld (ci_add (ci_o 4) 1 10 8) 0 1 1) 2 10 8) 0 2 2) 3 10 8) 0 3 3
set_option maxHeartbeats 2000000 in
set_option maxRecDepth 20000 in
theorem m_X3_init {s0 : ce_S} {g0 : ce_D} (h : Nat) (H0 : ci_sh s0 g0 h (ci_o 4) 1) : ce_CT (ce_ri 1 3 24) mX3_init [.ref (h)] s0 g0 (ce_sv (fun s1 g1 => ci_sh s1 g1 h ci_X3_init 4 ∧ ci_sb h s0 g0 s1 g1)) ce_no := by
  refine ce_enter (by decide) rfl (Nat.le_of_ble_eq_true rfl) (L := [some (.ref (h))]) rfl ?_
  have B0 := ci_sb.rf (t := h) (σ := s0) (g := g0)
  refine ce_aload_n dX3_init_0 rfl ?_
  refine ce_objInit dX3_init_1 kRX3_3 wx_oi wx_oc (by decide) (Nat.le_of_ble_eq_true rfl) ?_
  refine ce_aload_n dX3_init_4 rfl ?_
  refine ce_bipush (v := nI (8)) dX3_init_5 (by decide) ?_
  refine ce_newaI dX3_init_7 wa_int rfl (Nat.le_of_ble_eq_true rfl) (Nat.le_of_ble_eq_true rfl) (Nat.le_of_ble_eq_true rfl) ?_
  have H1 : ci_sh (ce_nw s0 10 8) (ce_nd s0 g0) h (ci_add (ci_o 4) 1 10 8) 2 := sh_add H0 10 8
  have B1 := B0.tr (ci_sb.nw (K := 10) (len := 8) (g := g0) (show h ≤ s0.1 by rw [H0.1]; omega))
  rw [H0.1]
  generalize ce_nw s0 10 8 = s1 at H1 B1 ⊢
  generalize ce_nd s0 g0 = g1 at H1 B1 ⊢
  refine ce_putF dX3_init_9 pRX3_9 (show ce_kd s1 h = 3 + 1 from (H1.2 0 (by decide)).1) rfl ?_
  have H2 := sh_fl0 H1 1 1
  have B2 := B1.tr (ci_sb.up (g := g1) (k := 1) (r := some (h + 1)) (Nat.le_refl h))
  generalize ce_upR s1 h 1 (some (h + 1)) = s2 at H2 B2 ⊢
  refine ce_aload_n dX3_init_12 rfl ?_
  refine ce_bipush (v := nI (8)) dX3_init_13 (by decide) ?_
  refine ce_newaI dX3_init_15 wa_int rfl (Nat.le_of_ble_eq_true rfl) (Nat.le_of_ble_eq_true rfl) (Nat.le_of_ble_eq_true rfl) ?_
  have H3 : ci_sh (ce_nw s2 10 8) (ce_nd s2 g1) h (ci_add (ci_fld (ci_add (ci_o 4) 1 10 8) 0 1 1) 2 10 8) 3 := sh_add H2 10 8
  have B3 := B2.tr (ci_sb.nw (K := 10) (len := 8) (g := g1) (show h ≤ s2.1 by rw [H2.1]; omega))
  rw [H2.1]
  generalize ce_nw s2 10 8 = s3 at H3 B3 ⊢
  generalize ce_nd s2 g1 = g3 at H3 B3 ⊢
  refine ce_putF dX3_init_17 pRX3_15 (show ce_kd s3 h = 3 + 1 from (H3.2 0 (by decide)).1) rfl ?_
  have H4 := sh_fl0 H3 2 2
  have B4 := B3.tr (ci_sb.up (g := g3) (k := 2) (r := some (h + 2)) (Nat.le_refl h))
  generalize ce_upR s3 h 2 (some (h + 2)) = s4 at H4 B4 ⊢
  refine ce_aload_n dX3_init_20 rfl ?_
  refine ce_bipush (v := nI (8)) dX3_init_21 (by decide) ?_
  refine ce_newaI dX3_init_23 wa_int rfl (Nat.le_of_ble_eq_true rfl) (Nat.le_of_ble_eq_true rfl) (Nat.le_of_ble_eq_true rfl) ?_
  have H5 : ci_sh (ce_nw s4 10 8) (ce_nd s4 g3) h (ci_add (ci_fld (ci_add (ci_fld (ci_add (ci_o 4) 1 10 8) 0 1 1) 2 10 8) 0 2 2) 3 10 8) 4 := sh_add H4 10 8
  have B5 := B4.tr (ci_sb.nw (K := 10) (len := 8) (g := g3) (show h ≤ s4.1 by rw [H4.1]; omega))
  rw [H4.1]
  generalize ce_nw s4 10 8 = s5 at H5 B5 ⊢
  generalize ce_nd s4 g3 = g5 at H5 B5 ⊢
  refine ce_putF dX3_init_25 pRX3_18 (show ce_kd s5 h = 3 + 1 from (H5.2 0 (by decide)).1) rfl ?_
  have H6 := sh_fl0 H5 3 3
  have B6 := B5.tr (ci_sb.up (g := g5) (k := 3) (r := some (h + 3)) (Nat.le_refl h))
  generalize ce_upR s5 h 3 (some (h + 3)) = s6 at H6 B6 ⊢
  exact ce_vret dX3_init_28 rfl (Nat.le_of_ble_eq_true rfl) (Nat.le_of_ble_eq_true rfl) ⟨rfl, H6, B6⟩
def ci_X0_init : ci_T := ci_fld (ci_in (ci_add (ci_fld (ci_in (ci_add (ci_fld (ci_in (ci_add (ci_fld (ci_in (ci_add (ci_fld (ci_in (ci_add (ci_fld (ci_add (ci_fld (ci_add (ci_fld (ci_add (ci_fld (ci_add (ci_fld (ci_add (ci_fld (ci_add (ci_fld (ci_add (ci_o 1) 1 10 6) 0 2 1) 2 10 6) 0 3 2) 3 10 6) 0 4 3) 4 10 6) 0 5 4) 5 10 6) 0 6 5) 6 10 6) 0 7 6) 7 10 6) 0 8 7) 8 6 0) 8 ci_X5_init) 0 9 8) 10 6 0) 10 ci_X5_init) 0 10 10) 12 6 0) 12 ci_X5_init) 0 11 12) 14 6 0) 14 ci_X5_init) 0 12 14) 16 4 0) 16 ci_X3_init) 0 13 16
set_option maxHeartbeats 2000000 in
set_option maxRecDepth 20000 in
theorem m_X0_init {s0 : ce_S} {g0 : ce_D} (h : Nat) (H0 : ci_sh s0 g0 h (ci_o 1) 1) : ce_CT (ce_ri 2 19 218) mX0_init [.ref (h)] s0 g0 (ce_sv (fun s1 g1 => ci_sh s1 g1 h ci_X0_init 20 ∧ ci_sb h s0 g0 s1 g1)) ce_no := by
  refine ce_enter (by decide) rfl (Nat.le_of_ble_eq_true rfl) (L := [some (.ref (h))]) rfl ?_
  have B0 := ci_sb.rf (t := h) (σ := s0) (g := g0)
  refine ce_aload_n dX0_init_0 rfl ?_
  refine ce_objInit dX0_init_1 kRX0_3 wx_oi wx_oc (by decide) (Nat.le_of_ble_eq_true rfl) ?_
  refine ce_aload_n dX0_init_4 rfl ?_
  refine ce_bipush (v := nI (6)) dX0_init_5 (by decide) ?_
  refine ce_newaI dX0_init_7 wa_int rfl (Nat.le_of_ble_eq_true rfl) (Nat.le_of_ble_eq_true rfl) (Nat.le_of_ble_eq_true rfl) ?_
  have H1 : ci_sh (ce_nw s0 10 6) (ce_nd s0 g0) h (ci_add (ci_o 1) 1 10 6) 2 := sh_add H0 10 6
  have B1 := B0.tr (ci_sb.nw (K := 10) (len := 6) (g := g0) (show h ≤ s0.1 by rw [H0.1]; omega))
  rw [H0.1]
  generalize ce_nw s0 10 6 = s1 at H1 B1 ⊢
  generalize ce_nd s0 g0 = g1 at H1 B1 ⊢
  refine ce_putF dX0_init_9 pRX0_9 (show ce_kd s1 h = 0 + 1 from (H1.2 0 (by decide)).1) rfl ?_
  have H2 := sh_fl0 H1 2 1
  have B2 := B1.tr (ci_sb.up (g := g1) (k := 2) (r := some (h + 1)) (Nat.le_refl h))
  generalize ce_upR s1 h 2 (some (h + 1)) = s2 at H2 B2 ⊢
  refine ce_aload_n dX0_init_12 rfl ?_
  refine ce_bipush (v := nI (6)) dX0_init_13 (by decide) ?_
  refine ce_newaI dX0_init_15 wa_int rfl (Nat.le_of_ble_eq_true rfl) (Nat.le_of_ble_eq_true rfl) (Nat.le_of_ble_eq_true rfl) ?_
  have H3 : ci_sh (ce_nw s2 10 6) (ce_nd s2 g1) h (ci_add (ci_fld (ci_add (ci_o 1) 1 10 6) 0 2 1) 2 10 6) 3 := sh_add H2 10 6
  have B3 := B2.tr (ci_sb.nw (K := 10) (len := 6) (g := g1) (show h ≤ s2.1 by rw [H2.1]; omega))
  rw [H2.1]
  generalize ce_nw s2 10 6 = s3 at H3 B3 ⊢
  generalize ce_nd s2 g1 = g3 at H3 B3 ⊢
  refine ce_putF dX0_init_17 pRX0_15 (show ce_kd s3 h = 0 + 1 from (H3.2 0 (by decide)).1) rfl ?_
  have H4 := sh_fl0 H3 3 2
  have B4 := B3.tr (ci_sb.up (g := g3) (k := 3) (r := some (h + 2)) (Nat.le_refl h))
  generalize ce_upR s3 h 3 (some (h + 2)) = s4 at H4 B4 ⊢
  refine ce_aload_n dX0_init_20 rfl ?_
  refine ce_bipush (v := nI (6)) dX0_init_21 (by decide) ?_
  refine ce_newaI dX0_init_23 wa_int rfl (Nat.le_of_ble_eq_true rfl) (Nat.le_of_ble_eq_true rfl) (Nat.le_of_ble_eq_true rfl) ?_
  have H5 : ci_sh (ce_nw s4 10 6) (ce_nd s4 g3) h (ci_add (ci_fld (ci_add (ci_fld (ci_add (ci_o 1) 1 10 6) 0 2 1) 2 10 6) 0 3 2) 3 10 6) 4 := sh_add H4 10 6
  have B5 := B4.tr (ci_sb.nw (K := 10) (len := 6) (g := g3) (show h ≤ s4.1 by rw [H4.1]; omega))
  rw [H4.1]
  generalize ce_nw s4 10 6 = s5 at H5 B5 ⊢
  generalize ce_nd s4 g3 = g5 at H5 B5 ⊢
  refine ce_putF dX0_init_25 pRX0_18 (show ce_kd s5 h = 0 + 1 from (H5.2 0 (by decide)).1) rfl ?_
  have H6 := sh_fl0 H5 4 3
  have B6 := B5.tr (ci_sb.up (g := g5) (k := 4) (r := some (h + 3)) (Nat.le_refl h))
  generalize ce_upR s5 h 4 (some (h + 3)) = s6 at H6 B6 ⊢
  refine ce_aload_n dX0_init_28 rfl ?_
  refine ce_bipush (v := nI (6)) dX0_init_29 (by decide) ?_
  refine ce_newaI dX0_init_31 wa_int rfl (Nat.le_of_ble_eq_true rfl) (Nat.le_of_ble_eq_true rfl) (Nat.le_of_ble_eq_true rfl) ?_
  have H7 : ci_sh (ce_nw s6 10 6) (ce_nd s6 g5) h (ci_add (ci_fld (ci_add (ci_fld (ci_add (ci_fld (ci_add (ci_o 1) 1 10 6) 0 2 1) 2 10 6) 0 3 2) 3 10 6) 0 4 3) 4 10 6) 5 := sh_add H6 10 6
  have B7 := B6.tr (ci_sb.nw (K := 10) (len := 6) (g := g5) (show h ≤ s6.1 by rw [H6.1]; omega))
  rw [H6.1]
  generalize ce_nw s6 10 6 = s7 at H7 B7 ⊢
  generalize ce_nd s6 g5 = g7 at H7 B7 ⊢
  refine ce_putF dX0_init_33 pRX0_21 (show ce_kd s7 h = 0 + 1 from (H7.2 0 (by decide)).1) rfl ?_
  have H8 := sh_fl0 H7 5 4
  have B8 := B7.tr (ci_sb.up (g := g7) (k := 5) (r := some (h + 4)) (Nat.le_refl h))
  generalize ce_upR s7 h 5 (some (h + 4)) = s8 at H8 B8 ⊢
  refine ce_aload_n dX0_init_36 rfl ?_
  refine ce_bipush (v := nI (6)) dX0_init_37 (by decide) ?_
  refine ce_newaI dX0_init_39 wa_int rfl (Nat.le_of_ble_eq_true rfl) (Nat.le_of_ble_eq_true rfl) (Nat.le_of_ble_eq_true rfl) ?_
  have H9 : ci_sh (ce_nw s8 10 6) (ce_nd s8 g7) h (ci_add (ci_fld (ci_add (ci_fld (ci_add (ci_fld (ci_add (ci_fld (ci_add (ci_o 1) 1 10 6) 0 2 1) 2 10 6) 0 3 2) 3 10 6) 0 4 3) 4 10 6) 0 5 4) 5 10 6) 6 := sh_add H8 10 6
  have B9 := B8.tr (ci_sb.nw (K := 10) (len := 6) (g := g7) (show h ≤ s8.1 by rw [H8.1]; omega))
  rw [H8.1]
  generalize ce_nw s8 10 6 = s9 at H9 B9 ⊢
  generalize ce_nd s8 g7 = g9 at H9 B9 ⊢
  refine ce_putF dX0_init_41 pRX0_24 (show ce_kd s9 h = 0 + 1 from (H9.2 0 (by decide)).1) rfl ?_
  have H10 := sh_fl0 H9 6 5
  have B10 := B9.tr (ci_sb.up (g := g9) (k := 6) (r := some (h + 5)) (Nat.le_refl h))
  generalize ce_upR s9 h 6 (some (h + 5)) = s10 at H10 B10 ⊢
  refine ce_aload_n dX0_init_44 rfl ?_
  refine ce_bipush (v := nI (6)) dX0_init_45 (by decide) ?_
  refine ce_newaI dX0_init_47 wa_int rfl (Nat.le_of_ble_eq_true rfl) (Nat.le_of_ble_eq_true rfl) (Nat.le_of_ble_eq_true rfl) ?_
  have H11 : ci_sh (ce_nw s10 10 6) (ce_nd s10 g9) h (ci_add (ci_fld (ci_add (ci_fld (ci_add (ci_fld (ci_add (ci_fld (ci_add (ci_fld (ci_add (ci_o 1) 1 10 6) 0 2 1) 2 10 6) 0 3 2) 3 10 6) 0 4 3) 4 10 6) 0 5 4) 5 10 6) 0 6 5) 6 10 6) 7 := sh_add H10 10 6
  have B11 := B10.tr (ci_sb.nw (K := 10) (len := 6) (g := g9) (show h ≤ s10.1 by rw [H10.1]; omega))
  rw [H10.1]
  generalize ce_nw s10 10 6 = s11 at H11 B11 ⊢
  generalize ce_nd s10 g9 = g11 at H11 B11 ⊢
  refine ce_putF dX0_init_49 pRX0_27 (show ce_kd s11 h = 0 + 1 from (H11.2 0 (by decide)).1) rfl ?_
  have H12 := sh_fl0 H11 7 6
  have B12 := B11.tr (ci_sb.up (g := g11) (k := 7) (r := some (h + 6)) (Nat.le_refl h))
  generalize ce_upR s11 h 7 (some (h + 6)) = s12 at H12 B12 ⊢
  refine ce_aload_n dX0_init_52 rfl ?_
  refine ce_bipush (v := nI (6)) dX0_init_53 (by decide) ?_
  refine ce_newaI dX0_init_55 wa_int rfl (Nat.le_of_ble_eq_true rfl) (Nat.le_of_ble_eq_true rfl) (Nat.le_of_ble_eq_true rfl) ?_
  have H13 : ci_sh (ce_nw s12 10 6) (ce_nd s12 g11) h (ci_add (ci_fld (ci_add (ci_fld (ci_add (ci_fld (ci_add (ci_fld (ci_add (ci_fld (ci_add (ci_fld (ci_add (ci_o 1) 1 10 6) 0 2 1) 2 10 6) 0 3 2) 3 10 6) 0 4 3) 4 10 6) 0 5 4) 5 10 6) 0 6 5) 6 10 6) 0 7 6) 7 10 6) 8 := sh_add H12 10 6
  have B13 := B12.tr (ci_sb.nw (K := 10) (len := 6) (g := g11) (show h ≤ s12.1 by rw [H12.1]; omega))
  rw [H12.1]
  generalize ce_nw s12 10 6 = s13 at H13 B13 ⊢
  generalize ce_nd s12 g11 = g13 at H13 B13 ⊢
  refine ce_putF dX0_init_57 pRX0_30 (show ce_kd s13 h = 0 + 1 from (H13.2 0 (by decide)).1) rfl ?_
  have H14 := sh_fl0 H13 8 7
  have B14 := B13.tr (ci_sb.up (g := g13) (k := 8) (r := some (h + 7)) (Nat.le_refl h))
  generalize ce_upR s13 h 8 (some (h + 7)) = s14 at H14 B14 ⊢
  refine ce_aload_n dX0_init_60 rfl ?_
  refine ce_new (ci := 5) dX0_init_61 kRX0_33 wi_X5 wn_X5 rfl (Nat.le_of_ble_eq_true rfl) (Nat.le_of_ble_eq_true rfl) ?_
  have H15 : ci_sh (ce_nw s14 6 0) (ce_nd s14 g13) h (ci_add (ci_fld (ci_add (ci_fld (ci_add (ci_fld (ci_add (ci_fld (ci_add (ci_fld (ci_add (ci_fld (ci_add (ci_fld (ci_add (ci_o 1) 1 10 6) 0 2 1) 2 10 6) 0 3 2) 3 10 6) 0 4 3) 4 10 6) 0 5 4) 5 10 6) 0 6 5) 6 10 6) 0 7 6) 7 10 6) 0 8 7) 8 6 0) 9 := sh_add H14 6 0
  have B15 := B14.tr (ci_sb.nw (K := 6) (len := 0) (g := g13) (show h ≤ s14.1 by rw [H14.1]; omega))
  rw [H14.1]
  generalize ce_nw s14 6 0 = s15 at H15 B15 ⊢
  generalize ce_nd s14 g13 = g15 at H15 B15 ⊢
  refine ce_dup dX0_init_64 rfl ?_
  refine ce_cINs dX0_init_65 hX5_init kRX0_35 (m_X5_init (h + 8) (sh_one H15 rfl)) rfl rfl (by decide) (Nat.le_of_ble_eq_true rfl) (Nat.le_of_ble_eq_true rfl) (Nat.le_of_ble_eq_true rfl) (fun s16 g16 q16 => ?_)
  have H16 : ci_sh s16 g16 h (ci_in (ci_add (ci_fld (ci_add (ci_fld (ci_add (ci_fld (ci_add (ci_fld (ci_add (ci_fld (ci_add (ci_fld (ci_add (ci_fld (ci_add (ci_o 1) 1 10 6) 0 2 1) 2 10 6) 0 3 2) 3 10 6) 0 4 3) 4 10 6) 0 5 4) 5 10 6) 0 6 5) 6 10 6) 0 7 6) 7 10 6) 0 8 7) 8 6 0) 8 ci_X5_init) 10 := sh_in H15 (by decide) q16.1 q16.2
  have B16 := B15.tr (q16.2.mo (by omega))
  refine ce_putF dX0_init_68 pRX0_36 (show ce_kd s16 h = 0 + 1 from (H16.2 0 (by decide)).1) rfl ?_
  have H17 := sh_fl0 H16 9 8
  have B17 := B16.tr (ci_sb.up (g := g16) (k := 9) (r := some (h + 8)) (Nat.le_refl h))
  generalize ce_upR s16 h 9 (some (h + 8)) = s17 at H17 B17 ⊢
  refine ce_aload_n dX0_init_71 rfl ?_
  refine ce_new (ci := 5) dX0_init_72 kRX0_33 wi_X5 wn_X5 rfl (Nat.le_of_ble_eq_true rfl) (Nat.le_of_ble_eq_true rfl) ?_
  have H18 : ci_sh (ce_nw s17 6 0) (ce_nd s17 g16) h (ci_add (ci_fld (ci_in (ci_add (ci_fld (ci_add (ci_fld (ci_add (ci_fld (ci_add (ci_fld (ci_add (ci_fld (ci_add (ci_fld (ci_add (ci_fld (ci_add (ci_o 1) 1 10 6) 0 2 1) 2 10 6) 0 3 2) 3 10 6) 0 4 3) 4 10 6) 0 5 4) 5 10 6) 0 6 5) 6 10 6) 0 7 6) 7 10 6) 0 8 7) 8 6 0) 8 ci_X5_init) 0 9 8) 10 6 0) 11 := sh_add H17 6 0
  have B18 := B17.tr (ci_sb.nw (K := 6) (len := 0) (g := g16) (show h ≤ s17.1 by rw [H17.1]; omega))
  rw [H17.1]
  generalize ce_nw s17 6 0 = s18 at H18 B18 ⊢
  generalize ce_nd s17 g16 = g18 at H18 B18 ⊢
  refine ce_dup dX0_init_75 rfl ?_
  refine ce_cINs dX0_init_76 hX5_init kRX0_35 (m_X5_init (h + 10) (sh_one H18 rfl)) rfl rfl (by decide) (Nat.le_of_ble_eq_true rfl) (Nat.le_of_ble_eq_true rfl) (Nat.le_of_ble_eq_true rfl) (fun s19 g19 q19 => ?_)
  have H19 : ci_sh s19 g19 h (ci_in (ci_add (ci_fld (ci_in (ci_add (ci_fld (ci_add (ci_fld (ci_add (ci_fld (ci_add (ci_fld (ci_add (ci_fld (ci_add (ci_fld (ci_add (ci_fld (ci_add (ci_o 1) 1 10 6) 0 2 1) 2 10 6) 0 3 2) 3 10 6) 0 4 3) 4 10 6) 0 5 4) 5 10 6) 0 6 5) 6 10 6) 0 7 6) 7 10 6) 0 8 7) 8 6 0) 8 ci_X5_init) 0 9 8) 10 6 0) 10 ci_X5_init) 12 := sh_in H18 (by decide) q19.1 q19.2
  have B19 := B18.tr (q19.2.mo (by omega))
  refine ce_putF dX0_init_79 pRX0_40 (show ce_kd s19 h = 0 + 1 from (H19.2 0 (by decide)).1) rfl ?_
  have H20 := sh_fl0 H19 10 10
  have B20 := B19.tr (ci_sb.up (g := g19) (k := 10) (r := some (h + 10)) (Nat.le_refl h))
  generalize ce_upR s19 h 10 (some (h + 10)) = s20 at H20 B20 ⊢
  refine ce_aload_n dX0_init_82 rfl ?_
  refine ce_new (ci := 5) dX0_init_83 kRX0_33 wi_X5 wn_X5 rfl (Nat.le_of_ble_eq_true rfl) (Nat.le_of_ble_eq_true rfl) ?_
  have H21 : ci_sh (ce_nw s20 6 0) (ce_nd s20 g19) h (ci_add (ci_fld (ci_in (ci_add (ci_fld (ci_in (ci_add (ci_fld (ci_add (ci_fld (ci_add (ci_fld (ci_add (ci_fld (ci_add (ci_fld (ci_add (ci_fld (ci_add (ci_fld (ci_add (ci_o 1) 1 10 6) 0 2 1) 2 10 6) 0 3 2) 3 10 6) 0 4 3) 4 10 6) 0 5 4) 5 10 6) 0 6 5) 6 10 6) 0 7 6) 7 10 6) 0 8 7) 8 6 0) 8 ci_X5_init) 0 9 8) 10 6 0) 10 ci_X5_init) 0 10 10) 12 6 0) 13 := sh_add H20 6 0
  have B21 := B20.tr (ci_sb.nw (K := 6) (len := 0) (g := g19) (show h ≤ s20.1 by rw [H20.1]; omega))
  rw [H20.1]
  generalize ce_nw s20 6 0 = s21 at H21 B21 ⊢
  generalize ce_nd s20 g19 = g21 at H21 B21 ⊢
  refine ce_dup dX0_init_86 rfl ?_
  refine ce_cINs dX0_init_87 hX5_init kRX0_35 (m_X5_init (h + 12) (sh_one H21 rfl)) rfl rfl (by decide) (Nat.le_of_ble_eq_true rfl) (Nat.le_of_ble_eq_true rfl) (Nat.le_of_ble_eq_true rfl) (fun s22 g22 q22 => ?_)
  have H22 : ci_sh s22 g22 h (ci_in (ci_add (ci_fld (ci_in (ci_add (ci_fld (ci_in (ci_add (ci_fld (ci_add (ci_fld (ci_add (ci_fld (ci_add (ci_fld (ci_add (ci_fld (ci_add (ci_fld (ci_add (ci_fld (ci_add (ci_o 1) 1 10 6) 0 2 1) 2 10 6) 0 3 2) 3 10 6) 0 4 3) 4 10 6) 0 5 4) 5 10 6) 0 6 5) 6 10 6) 0 7 6) 7 10 6) 0 8 7) 8 6 0) 8 ci_X5_init) 0 9 8) 10 6 0) 10 ci_X5_init) 0 10 10) 12 6 0) 12 ci_X5_init) 14 := sh_in H21 (by decide) q22.1 q22.2
  have B22 := B21.tr (q22.2.mo (by omega))
  refine ce_putF dX0_init_90 pRX0_43 (show ce_kd s22 h = 0 + 1 from (H22.2 0 (by decide)).1) rfl ?_
  have H23 := sh_fl0 H22 11 12
  have B23 := B22.tr (ci_sb.up (g := g22) (k := 11) (r := some (h + 12)) (Nat.le_refl h))
  generalize ce_upR s22 h 11 (some (h + 12)) = s23 at H23 B23 ⊢
  refine ce_aload_n dX0_init_93 rfl ?_
  refine ce_new (ci := 5) dX0_init_94 kRX0_33 wi_X5 wn_X5 rfl (Nat.le_of_ble_eq_true rfl) (Nat.le_of_ble_eq_true rfl) ?_
  have H24 : ci_sh (ce_nw s23 6 0) (ce_nd s23 g22) h (ci_add (ci_fld (ci_in (ci_add (ci_fld (ci_in (ci_add (ci_fld (ci_in (ci_add (ci_fld (ci_add (ci_fld (ci_add (ci_fld (ci_add (ci_fld (ci_add (ci_fld (ci_add (ci_fld (ci_add (ci_fld (ci_add (ci_o 1) 1 10 6) 0 2 1) 2 10 6) 0 3 2) 3 10 6) 0 4 3) 4 10 6) 0 5 4) 5 10 6) 0 6 5) 6 10 6) 0 7 6) 7 10 6) 0 8 7) 8 6 0) 8 ci_X5_init) 0 9 8) 10 6 0) 10 ci_X5_init) 0 10 10) 12 6 0) 12 ci_X5_init) 0 11 12) 14 6 0) 15 := sh_add H23 6 0
  have B24 := B23.tr (ci_sb.nw (K := 6) (len := 0) (g := g22) (show h ≤ s23.1 by rw [H23.1]; omega))
  rw [H23.1]
  generalize ce_nw s23 6 0 = s24 at H24 B24 ⊢
  generalize ce_nd s23 g22 = g24 at H24 B24 ⊢
  refine ce_dup dX0_init_97 rfl ?_
  refine ce_cINs dX0_init_98 hX5_init kRX0_35 (m_X5_init (h + 14) (sh_one H24 rfl)) rfl rfl (by decide) (Nat.le_of_ble_eq_true rfl) (Nat.le_of_ble_eq_true rfl) (Nat.le_of_ble_eq_true rfl) (fun s25 g25 q25 => ?_)
  have H25 : ci_sh s25 g25 h (ci_in (ci_add (ci_fld (ci_in (ci_add (ci_fld (ci_in (ci_add (ci_fld (ci_in (ci_add (ci_fld (ci_add (ci_fld (ci_add (ci_fld (ci_add (ci_fld (ci_add (ci_fld (ci_add (ci_fld (ci_add (ci_fld (ci_add (ci_o 1) 1 10 6) 0 2 1) 2 10 6) 0 3 2) 3 10 6) 0 4 3) 4 10 6) 0 5 4) 5 10 6) 0 6 5) 6 10 6) 0 7 6) 7 10 6) 0 8 7) 8 6 0) 8 ci_X5_init) 0 9 8) 10 6 0) 10 ci_X5_init) 0 10 10) 12 6 0) 12 ci_X5_init) 0 11 12) 14 6 0) 14 ci_X5_init) 16 := sh_in H24 (by decide) q25.1 q25.2
  have B25 := B24.tr (q25.2.mo (by omega))
  refine ce_putF dX0_init_101 pRX0_46 (show ce_kd s25 h = 0 + 1 from (H25.2 0 (by decide)).1) rfl ?_
  have H26 := sh_fl0 H25 12 14
  have B26 := B25.tr (ci_sb.up (g := g25) (k := 12) (r := some (h + 14)) (Nat.le_refl h))
  generalize ce_upR s25 h 12 (some (h + 14)) = s26 at H26 B26 ⊢
  refine ce_aload_n dX0_init_104 rfl ?_
  refine ce_new (ci := 3) dX0_init_105 kRX0_49 wi_X3 wn_X3 rfl (Nat.le_of_ble_eq_true rfl) (Nat.le_of_ble_eq_true rfl) ?_
  have H27 : ci_sh (ce_nw s26 4 0) (ce_nd s26 g25) h (ci_add (ci_fld (ci_in (ci_add (ci_fld (ci_in (ci_add (ci_fld (ci_in (ci_add (ci_fld (ci_in (ci_add (ci_fld (ci_add (ci_fld (ci_add (ci_fld (ci_add (ci_fld (ci_add (ci_fld (ci_add (ci_fld (ci_add (ci_fld (ci_add (ci_o 1) 1 10 6) 0 2 1) 2 10 6) 0 3 2) 3 10 6) 0 4 3) 4 10 6) 0 5 4) 5 10 6) 0 6 5) 6 10 6) 0 7 6) 7 10 6) 0 8 7) 8 6 0) 8 ci_X5_init) 0 9 8) 10 6 0) 10 ci_X5_init) 0 10 10) 12 6 0) 12 ci_X5_init) 0 11 12) 14 6 0) 14 ci_X5_init) 0 12 14) 16 4 0) 17 := sh_add H26 4 0
  have B27 := B26.tr (ci_sb.nw (K := 4) (len := 0) (g := g25) (show h ≤ s26.1 by rw [H26.1]; omega))
  rw [H26.1]
  generalize ce_nw s26 4 0 = s27 at H27 B27 ⊢
  generalize ce_nd s26 g25 = g27 at H27 B27 ⊢
  refine ce_dup dX0_init_108 rfl ?_
  refine ce_cINs dX0_init_109 hX3_init kRX0_51 (m_X3_init (h + 16) (sh_one H27 rfl)) rfl rfl (by decide) (Nat.le_of_ble_eq_true rfl) (Nat.le_of_ble_eq_true rfl) (Nat.le_of_ble_eq_true rfl) (fun s28 g28 q28 => ?_)
  have H28 : ci_sh s28 g28 h (ci_in (ci_add (ci_fld (ci_in (ci_add (ci_fld (ci_in (ci_add (ci_fld (ci_in (ci_add (ci_fld (ci_in (ci_add (ci_fld (ci_add (ci_fld (ci_add (ci_fld (ci_add (ci_fld (ci_add (ci_fld (ci_add (ci_fld (ci_add (ci_fld (ci_add (ci_o 1) 1 10 6) 0 2 1) 2 10 6) 0 3 2) 3 10 6) 0 4 3) 4 10 6) 0 5 4) 5 10 6) 0 6 5) 6 10 6) 0 7 6) 7 10 6) 0 8 7) 8 6 0) 8 ci_X5_init) 0 9 8) 10 6 0) 10 ci_X5_init) 0 10 10) 12 6 0) 12 ci_X5_init) 0 11 12) 14 6 0) 14 ci_X5_init) 0 12 14) 16 4 0) 16 ci_X3_init) 20 := sh_in H27 (by decide) q28.1 q28.2
  have B28 := B27.tr (q28.2.mo (by omega))
  refine ce_putF dX0_init_112 pRX0_52 (show ce_kd s28 h = 0 + 1 from (H28.2 0 (by decide)).1) rfl ?_
  have H29 := sh_fl0 H28 13 16
  have B29 := B28.tr (ci_sb.up (g := g28) (k := 13) (r := some (h + 16)) (Nat.le_refl h))
  generalize ce_upR s28 h 13 (some (h + 16)) = s29 at H29 B29 ⊢
  exact ce_vret dX0_init_115 rfl (Nat.le_of_ble_eq_true rfl) (Nat.le_of_ble_eq_true rfl) ⟨rfl, H29, B29⟩
def ci_X2_init : ci_T := ci_fld (ci_add (ci_fld (ci_add (ci_o 3) 1 10 256) 0 0 1) 2 12 256) 0 1 2
set_option maxHeartbeats 2000000 in
set_option maxRecDepth 20000 in
theorem m_X2_init {s0 : ce_S} {g0 : ce_D} (h : Nat) (H0 : ci_sh s0 g0 h (ci_o 3) 1) : ce_CT (ce_ri 1 2 512) mX2_init [.ref (h)] s0 g0 (ce_sv (fun s1 g1 => ci_sh s1 g1 h ci_X2_init 3 ∧ ci_sb h s0 g0 s1 g1)) ce_no := by
  refine ce_enter (by decide) rfl (Nat.le_of_ble_eq_true rfl) (L := [some (.ref (h))]) rfl ?_
  have B0 := ci_sb.rf (t := h) (σ := s0) (g := g0)
  refine ce_aload_n dX2_init_0 rfl ?_
  refine ce_objInit dX2_init_1 kRX2_3 wx_oi wx_oc (by decide) (Nat.le_of_ble_eq_true rfl) ?_
  refine ce_aload_n dX2_init_4 rfl ?_
  refine ce_sipush (v := nI (256)) dX2_init_5 (by decide) ?_
  refine ce_newaI dX2_init_8 wa_int rfl (Nat.le_of_ble_eq_true rfl) (Nat.le_of_ble_eq_true rfl) (Nat.le_of_ble_eq_true rfl) ?_
  have H1 : ci_sh (ce_nw s0 10 256) (ce_nd s0 g0) h (ci_add (ci_o 3) 1 10 256) 2 := sh_add H0 10 256
  have B1 := B0.tr (ci_sb.nw (K := 10) (len := 256) (g := g0) (show h ≤ s0.1 by rw [H0.1]; omega))
  rw [H0.1]
  generalize ce_nw s0 10 256 = s1 at H1 B1 ⊢
  generalize ce_nd s0 g0 = g1 at H1 B1 ⊢
  refine ce_putF dX2_init_10 pRX2_9 (show ce_kd s1 h = 2 + 1 from (H1.2 0 (by decide)).1) rfl ?_
  have H2 := sh_fl0 H1 0 1
  have B2 := B1.tr (ci_sb.up (g := g1) (k := 0) (r := some (h + 1)) (Nat.le_refl h))
  generalize ce_upR s1 h 0 (some (h + 1)) = s2 at H2 B2 ⊢
  refine ce_aload_n dX2_init_13 rfl ?_
  refine ce_sipush (v := nI (256)) dX2_init_14 (by decide) ?_
  refine ce_newaZ dX2_init_17 wa_boolean rfl (Nat.le_of_ble_eq_true rfl) (Nat.le_of_ble_eq_true rfl) (Nat.le_of_ble_eq_true rfl) ?_
  have H3 : ci_sh (ce_nw s2 12 256) (ce_nd s2 g1) h (ci_add (ci_fld (ci_add (ci_o 3) 1 10 256) 0 0 1) 2 12 256) 3 := sh_add H2 12 256
  have B3 := B2.tr (ci_sb.nw (K := 12) (len := 256) (g := g1) (show h ≤ s2.1 by rw [H2.1]; omega))
  rw [H2.1]
  generalize ce_nw s2 12 256 = s3 at H3 B3 ⊢
  generalize ce_nd s2 g1 = g3 at H3 B3 ⊢
  refine ce_putF dX2_init_19 pRX2_15 (show ce_kd s3 h = 2 + 1 from (H3.2 0 (by decide)).1) rfl ?_
  have H4 := sh_fl0 H3 1 2
  have B4 := B3.tr (ci_sb.up (g := g3) (k := 1) (r := some (h + 2)) (Nat.le_refl h))
  generalize ce_upR s3 h 1 (some (h + 2)) = s4 at H4 B4 ⊢
  exact ce_vret dX2_init_22 rfl (Nat.le_of_ble_eq_true rfl) (Nat.le_of_ble_eq_true rfl) ⟨rfl, H4, B4⟩
def ci_X6_init : ci_T := ci_fld (ci_in (ci_add (ci_fld (ci_in (ci_add (ci_fld (ci_add (ci_o 7) 1 11 120) 0 0 1) 2 1 0) 2 ci_X0_init) 0 3 2) 22 1 0) 22 ci_X0_init) 0 4 22
set_option maxHeartbeats 2000000 in
set_option maxRecDepth 20000 in
theorem m_X6_init {s0 : ce_S} {g0 : ce_D} (h : Nat) (H0 : ci_sh s0 g0 h (ci_o 7) 1) : ce_CT (ce_ri 3 41 584) mX6_init [.ref (h)] s0 g0 (ce_sv (fun s1 g1 => ci_sh s1 g1 h ci_X6_init 42 ∧ ci_sb h s0 g0 s1 g1)) ce_no := by
  refine ce_enter (by decide) rfl (Nat.le_of_ble_eq_true rfl) (L := [some (.ref (h))]) rfl ?_
  have B0 := ci_sb.rf (t := h) (σ := s0) (g := g0)
  refine ce_aload_n dX6_init_0 rfl ?_
  refine ce_objInit dX6_init_1 kRX6_3 wx_oi wx_oc (by decide) (Nat.le_of_ble_eq_true rfl) ?_
  refine ce_aload_n dX6_init_4 rfl ?_
  refine ce_bipush (v := nI (120)) dX6_init_5 (by decide) ?_
  refine ce_newaC dX6_init_7 wa_char rfl (Nat.le_of_ble_eq_true rfl) (Nat.le_of_ble_eq_true rfl) (Nat.le_of_ble_eq_true rfl) ?_
  have H1 : ci_sh (ce_nw s0 11 120) (ce_nd s0 g0) h (ci_add (ci_o 7) 1 11 120) 2 := sh_add H0 11 120
  have B1 := B0.tr (ci_sb.nw (K := 11) (len := 120) (g := g0) (show h ≤ s0.1 by rw [H0.1]; omega))
  rw [H0.1]
  generalize ce_nw s0 11 120 = s1 at H1 B1 ⊢
  generalize ce_nd s0 g0 = g1 at H1 B1 ⊢
  refine ce_putF dX6_init_9 pRX6_9 (show ce_kd s1 h = 6 + 1 from (H1.2 0 (by decide)).1) rfl ?_
  have H2 := sh_fl0 H1 0 1
  have B2 := B1.tr (ci_sb.up (g := g1) (k := 0) (r := some (h + 1)) (Nat.le_refl h))
  generalize ce_upR s1 h 0 (some (h + 1)) = s2 at H2 B2 ⊢
  refine ce_aload_n dX6_init_12 rfl ?_
  refine ce_new (ci := 0) dX6_init_13 kRX6_15 wi_X0 wn_X0 rfl (Nat.le_of_ble_eq_true rfl) (Nat.le_of_ble_eq_true rfl) ?_
  have H3 : ci_sh (ce_nw s2 1 0) (ce_nd s2 g1) h (ci_add (ci_fld (ci_add (ci_o 7) 1 11 120) 0 0 1) 2 1 0) 3 := sh_add H2 1 0
  have B3 := B2.tr (ci_sb.nw (K := 1) (len := 0) (g := g1) (show h ≤ s2.1 by rw [H2.1]; omega))
  rw [H2.1]
  generalize ce_nw s2 1 0 = s3 at H3 B3 ⊢
  generalize ce_nd s2 g1 = g3 at H3 B3 ⊢
  refine ce_dup dX6_init_16 rfl ?_
  refine ce_cINs dX6_init_17 hX0_init kRX6_17 (m_X0_init (h + 2) (sh_one H3 rfl)) rfl rfl (by decide) (Nat.le_of_ble_eq_true rfl) (Nat.le_of_ble_eq_true rfl) (Nat.le_of_ble_eq_true rfl) (fun s4 g4 q4 => ?_)
  have H4 : ci_sh s4 g4 h (ci_in (ci_add (ci_fld (ci_add (ci_o 7) 1 11 120) 0 0 1) 2 1 0) 2 ci_X0_init) 22 := sh_in H3 (by decide) q4.1 q4.2
  have B4 := B3.tr (q4.2.mo (by omega))
  refine ce_putF dX6_init_20 pRX6_18 (show ce_kd s4 h = 6 + 1 from (H4.2 0 (by decide)).1) rfl ?_
  have H5 := sh_fl0 H4 3 2
  have B5 := B4.tr (ci_sb.up (g := g4) (k := 3) (r := some (h + 2)) (Nat.le_refl h))
  generalize ce_upR s4 h 3 (some (h + 2)) = s5 at H5 B5 ⊢
  refine ce_aload_n dX6_init_23 rfl ?_
  refine ce_new (ci := 0) dX6_init_24 kRX6_15 wi_X0 wn_X0 rfl (Nat.le_of_ble_eq_true rfl) (Nat.le_of_ble_eq_true rfl) ?_
  have H6 : ci_sh (ce_nw s5 1 0) (ce_nd s5 g4) h (ci_add (ci_fld (ci_in (ci_add (ci_fld (ci_add (ci_o 7) 1 11 120) 0 0 1) 2 1 0) 2 ci_X0_init) 0 3 2) 22 1 0) 23 := sh_add H5 1 0
  have B6 := B5.tr (ci_sb.nw (K := 1) (len := 0) (g := g4) (show h ≤ s5.1 by rw [H5.1]; omega))
  rw [H5.1]
  generalize ce_nw s5 1 0 = s6 at H6 B6 ⊢
  generalize ce_nd s5 g4 = g6 at H6 B6 ⊢
  refine ce_dup dX6_init_27 rfl ?_
  refine ce_cINs dX6_init_28 hX0_init kRX6_17 (m_X0_init (h + 22) (sh_one H6 rfl)) rfl rfl (by decide) (Nat.le_of_ble_eq_true rfl) (Nat.le_of_ble_eq_true rfl) (Nat.le_of_ble_eq_true rfl) (fun s7 g7 q7 => ?_)
  have H7 : ci_sh s7 g7 h (ci_in (ci_add (ci_fld (ci_in (ci_add (ci_fld (ci_add (ci_o 7) 1 11 120) 0 0 1) 2 1 0) 2 ci_X0_init) 0 3 2) 22 1 0) 22 ci_X0_init) 42 := sh_in H6 (by decide) q7.1 q7.2
  have B7 := B6.tr (q7.2.mo (by omega))
  refine ce_putF dX6_init_31 pRX6_22 (show ce_kd s7 h = 6 + 1 from (H7.2 0 (by decide)).1) rfl ?_
  have H8 := sh_fl0 H7 4 22
  have B8 := B7.tr (ci_sb.up (g := g7) (k := 4) (r := some (h + 22)) (Nat.le_refl h))
  generalize ce_upR s7 h 4 (some (h + 22)) = s8 at H8 B8 ⊢
  exact ce_vret dX6_init_34 rfl (Nat.le_of_ble_eq_true rfl) (Nat.le_of_ble_eq_true rfl) ⟨rfl, H8, B8⟩
def ci_X4_init : ci_T := ci_fld (ci_in (ci_add (ci_o 5) 1 1 0) 1 ci_X0_init) 0 0 1
set_option maxHeartbeats 2000000 in
set_option maxRecDepth 20000 in
theorem m_X4_init {s0 : ce_S} {g0 : ce_D} (h : Nat) (H0 : ci_sh s0 g0 h (ci_o 5) 1) : ce_CT (ce_ri 3 20 232) mX4_init [.ref (h)] s0 g0 (ce_sv (fun s1 g1 => ci_sh s1 g1 h ci_X4_init 21 ∧ ci_sb h s0 g0 s1 g1)) ce_no := by
  refine ce_enter (by decide) rfl (Nat.le_of_ble_eq_true rfl) (L := [some (.ref (h))]) rfl ?_
  have B0 := ci_sb.rf (t := h) (σ := s0) (g := g0)
  refine ce_aload_n dX4_init_0 rfl ?_
  refine ce_objInit dX4_init_1 kRX4_3 wx_oi wx_oc (by decide) (Nat.le_of_ble_eq_true rfl) ?_
  refine ce_aload_n dX4_init_4 rfl ?_
  refine ce_new (ci := 0) dX4_init_5 kRX4_9 wi_X0 wn_X0 rfl (Nat.le_of_ble_eq_true rfl) (Nat.le_of_ble_eq_true rfl) ?_
  have H1 : ci_sh (ce_nw s0 1 0) (ce_nd s0 g0) h (ci_add (ci_o 5) 1 1 0) 2 := sh_add H0 1 0
  have B1 := B0.tr (ci_sb.nw (K := 1) (len := 0) (g := g0) (show h ≤ s0.1 by rw [H0.1]; omega))
  rw [H0.1]
  generalize ce_nw s0 1 0 = s1 at H1 B1 ⊢
  generalize ce_nd s0 g0 = g1 at H1 B1 ⊢
  refine ce_dup dX4_init_8 rfl ?_
  refine ce_cINs dX4_init_9 hX0_init kRX4_11 (m_X0_init (h + 1) (sh_one H1 rfl)) rfl rfl (by decide) (Nat.le_of_ble_eq_true rfl) (Nat.le_of_ble_eq_true rfl) (Nat.le_of_ble_eq_true rfl) (fun s2 g2 q2 => ?_)
  have H2 : ci_sh s2 g2 h (ci_in (ci_add (ci_o 5) 1 1 0) 1 ci_X0_init) 21 := sh_in H1 (by decide) q2.1 q2.2
  have B2 := B1.tr (q2.2.mo (by omega))
  refine ce_putF dX4_init_12 pRX4_12 (show ce_kd s2 h = 4 + 1 from (H2.2 0 (by decide)).1) rfl ?_
  have H3 := sh_fl0 H2 0 1
  have B3 := B2.tr (ci_sb.up (g := g2) (k := 0) (r := some (h + 1)) (Nat.le_refl h))
  generalize ce_upR s2 h 0 (some (h + 1)) = s3 at H3 B3 ⊢
  exact ce_vret dX4_init_15 rfl (Nat.le_of_ble_eq_true rfl) (Nat.le_of_ble_eq_true rfl) ⟨rfl, H3, B3⟩
