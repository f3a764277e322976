def ko_z (K : ce_V) (O : Nat → Int32) : Prop := ∀ m, K 0 0 ≤ m → m < 6 → O m = 0
theorem kq_isum {K : ce_V} {O : Nat → Int32} (h : K 0 0 ≤ 6) (hz : ko_z K O) : ce_isum O (K 0 0) = ce_isum O 6 := by
  have key : ∀ j, K 0 0 + j ≤ 6 → ce_isum O (K 0 0 + j) = ce_isum O (K 0 0) := fun j => by
    induction j with
    | zero => intro _; rfl
    | succ j ih =>
      intro hj
      rw [← Nat.add_assoc, ce_isum, ih (by omega), hz (K 0 0 + j) (by omega) (by omega), Int32.add_zero]
  have := key (6 - K 0 0) (by omega)
  rw [show K 0 0 + (6 - K 0 0) = 6 by omega] at this
  exact this.symm
/-! what is owed beyond the members: nothing -/
def ks_oz (S : ks_S) : Prop := ko_z (sK S) (sO S) ∧ (∀ i, i < sn S → ko_z (sKH S i) (sOH S i)) ∧ ∀ s, s < 2 → sF S s = true → ko_z (sKS S s) (sOS S s)
theorem oz_act {S : ks_S} (h : ks_oz S) (hn : sn S ≤ 14) {K : ce_V} {O : Nat → Int32} (hk : ko_z K O) : ks_oz (ks_act S K O) := by
  obtain ⟨h1, h2, h3⟩ := h
  refine ⟨hk, fun i hi => ?_, h3⟩
  show ko_z (kh_f (sn S) (sKH S) (sK S) i) (kh_f (sn S) (sOH S) (sO S) i)
  have hi2 : i < kh_n (sn S) := hi
  unfold kh_n at hi2
  unfold kh_f
  by_cases e : sn S = 14
  · rw [if_pos e] at hi2
    rw [if_pos e, if_pos e]
    by_cases e2 : i = 13
    · rw [if_pos e2, if_pos e2]; exact h1
    · rw [if_neg e2, if_neg e2]; exact h2 _ (by omega)
  · rw [if_neg e] at hi2
    rw [if_neg e, if_neg e]
    by_cases e2 : i = sn S
    · rw [if_pos e2, if_pos e2]; exact h1
    · rw [if_neg e2, if_neg e2]; exact h2 _ (by omega)
theorem oz_undo {S : ks_S} (h : ks_oz S) (hn : 0 < sn S) : ks_oz (ks_undo S) := ⟨h.2.1 _ (by omega), fun i hi => h.2.1 i (by have : i < sn S - 1 := hi; omega), h.2.2⟩
theorem oz_save {S : ks_S} (h : ks_oz S) (s : Nat) : ks_oz (ks_save S s) := by
  refine ⟨h.1, h.2.1, fun i hi hF => ?_⟩
  show ko_z (if i = s then sK S else sKS S i) (if i = s then sO S else sOS S i)
  have hF : (if i = s then true else sF S i) = true := hF
  by_cases e : i = s
  · rw [if_pos e, if_pos e]; exact h.1
  · rw [if_neg e] at hF
    rw [if_neg e, if_neg e]; exact h.2.2 i hi hF
theorem oz_rest {S : ks_S} (h : ks_oz S) {s : Nat} (hs : s < 2) (hF : sF S s = true) : ks_oz (ks_rest S s) := ⟨h.2.2 s hs hF, fun i hi => by have : i < 0 := hi; omega, h.2.2⟩
theorem oz_load {S : ks_S} (K : ce_V) : ks_oz (ks_load S K) := ⟨fun _ _ _ => rfl, fun i hi => by have : i < 0 := hi; omega, fun s hs hF => (by cases hF)⟩
theorem oz_text {S : ks_S} {n : Nat} {T : Nat → Nat} (h : ks_oz S) : ks_oz (S.1, S.2.1, S.2.2.1, (n, T)) := h
theorem oz_0 : ks_oz ks_0 := ⟨fun _ _ _ => rfl, fun i hi => by have : i < 0 := hi; omega, fun s hs hF => (by cases hF)⟩
theorem oz_same {K K2 : ce_V} {O : Nat → Int32} (h : ko_z K O) (e : K 0 0 ≤ K2 0 0) : ko_z K2 O := fun m h1 h2 => h m (by omega) h2
theorem oz_all {K : ce_V} {w : Nat} {O : Nat → Int32} (h : ko_z K O) : ko_z (kv_all K w) (ko_all K w O) := fun m h1 h2 => by
  have e : kv_all K w 0 0 = K 0 0 := by
    unfold kv_all
    rw [kv_up_ne (by decide), kv_end_ne (by decide), kv_share_ne (by decide)]
  rw [e] at h1
  unfold ko_all ko_end
  rw [if_neg (by omega)]
  exact h m h1 h2
theorem oz_bri {K : ce_V} {w : Nat} {O : Nat → Int32} (h : ko_z K O) : ko_z (kv_bri K w) (ko_bri K w O) := fun m h1 h2 => by
  have e : kv_bri K w 0 0 = K 0 0 := by
    unfold kv_bri
    rw [kv_up_ne (by decide), kv_del_ne (by decide), kv_lay_ne (by decide) (by decide)]
  rw [e] at h1
  unfold ko_bri ko_del
  rw [if_neg (by omega)]
  exact h m h1 h2
theorem oz_upd {K K2 : ce_V} {m : Nat} {x : Int32} {O : Nat → Int32} (h : ko_z K O) (e : K2 0 0 = K 0 0) (hm : m < K 0 0) : ko_z K2 (upd O m x) := fun j h1 h2 => by
  unfold upd
  rw [if_neg (by omega)]
  exact h j (by omega) h2
theorem kv_cor_0 {K : ce_V} {m w : Nat} : kv_cor K m w 0 0 = K 0 0 := by
  unfold kv_cor kv_cor1 kv_crk
  split
  · rw [kv_lay_ne (by decide) (by decide), kv_up_ne (by decide), kv_up_ne (by decide), kv_take_ne (by decide)]
  · rw [kv_up_ne (by decide), kv_up_ne (by decide), kv_take_ne (by decide)]
theorem oz_cor {K : ce_V} {m w : Nat} {O : Nat → Int32} (h : ko_z K O) (hm : m < K 0 0) : ko_z (kv_cor K m w) (ko_cor K m w O) := by
  unfold ko_cor
  split
  · exact oz_same h (by rw [kv_cor_0]; exact Nat.le_refl _)
  · exact oz_upd h kv_cor_0 hm
