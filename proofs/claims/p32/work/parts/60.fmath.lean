/-! what follows an act, in numbers -/
theorem lq_as {x y : Int32} {p q : Nat} (h : y.toInt = x.toInt + p - q) (h1 : -1000000 ≤ x.toInt ∧ x.toInt ≤ 1000000) (hp : p ≤ 1000000) (hq : q ≤ 1000000) : y.toInt64 = x.toInt64 + lN p - lN q := by
  have e1 : (x.toInt64 + lN p).toInt = x.toInt + p := by
    rw [Int64.toInt_add, Int32.toInt_toInt64, pk_lT (by omega)]
    exact Int.bmod_eq_of_le (by omega) (by omega)
  apply Int64.toInt_inj.mp
  rw [Int64.toInt_sub, e1, Int32.toInt_toInt64, pk_lT (by omega), h]
  exact (Int.bmod_eq_of_le (by omega) (by omega)).symm
theorem lq_a {x y : Int32} {p : Nat} (h : y.toInt = x.toInt + p) (h1 : -1000000 ≤ x.toInt ∧ x.toInt ≤ 1000000) (hp : p ≤ 1000000) : y.toInt64 = x.toInt64 + lN p := by
  apply Int64.toInt_inj.mp
  rw [Int64.toInt_add, Int32.toInt_toInt64, Int32.toInt_toInt64, pk_lT (by omega), h]
  exact (Int.bmod_eq_of_le (by omega) (by omega)).symm
theorem lq_s {x y : Int32} {p : Nat} (h : y.toInt = x.toInt - p) (h1 : -1000000 ≤ x.toInt ∧ x.toInt ≤ 1000000) (hp : p ≤ 1000000) : y.toInt64 = x.toInt64 - lN p := by
  apply Int64.toInt_inj.mp
  rw [Int64.toInt_sub, Int32.toInt_toInt64, Int32.toInt_toInt64, pk_lT (by omega), h]
  exact (Int.bmod_eq_of_le (by omega) (by omega)).symm
section FMA
variable {K : ce_V} {O : Nat → Int32} {w m o n : Nat}
theorem fm_pts (hm : m < K 0 0) : kv_all K w 1 m = min 999 (K 1 m + kv_all K w 8 (m * 6 + w)) := by
  rw [kv_all_8e]
  unfold kv_all
  rw [kv_up_ne (by decide), kv_end_1b, if_pos hm, kv_share_ne (by decide)]
theorem fm_half {p d : Nat} : p * d - p * d / 2 = (p * d + 1) / 2 := by omega
theorem fm_owe (h : kv_cl K) (hj : kj K O) (hw : w < 6) (h5 : K 5 w = 0) (hm : m < K 0 0) : (ko_all K w O m).toInt64 = (O m).toInt64 + lN (K 2 w * kv_all K w 8 (m * 6 + w)) - lN (K 2 w * kv_all K w 8 (m * 6 + w) / 2) := by
  have h6 := h.me
  have h1 := kv_half_le (h.pr w) (kv_all_8 h hw m)
  have h2 := hj.o h (m := m) (by omega)
  refine lq_as ?_ (by omega) (by omega) (by omega)
  rw [ko_all_i h hj hw h5 (by omega), if_pos hm]
  omega
theorem fm_bri9 (hw : w < 6) {v j : Nat} (hv : v < 6) : kv_bri K w 9 (j * 6 + v) = if v = w ∧ j < K 0 0 then K 8 (j * 6 + w) else K 9 (j * 6 + v) := by
  unfold kv_bri
  rw [kv_up_ne (by decide), kv_del_9b hw hv, kv_lay_ne (by decide) (by decide), kv_lay_ne (by decide) (by decide)]
theorem fm_cel (h : kv_cl K) (hw : w < 6) (h5 : K 5 w = 1) : ce_sum (kv_bri K w 9) 36 = ce_sum (K 9) 36 + kv_sum K 8 w := by
  have e0 : ∀ v, v < 6 → v ≠ w → kv_sum (kv_bri K w) 9 v = kv_sum K 9 v := fun v hv hne => ce_sum_cong (fun j _ => by rw [fm_bri9 hw hv, if_neg (fun z => hne z.1)])
  have e1 : kv_sum (kv_bri K w) 9 w = kv_sum K 8 w := ce_sum_cong (fun j hj => by
    rw [fm_bri9 hw hw]
    by_cases q : j < K 0 0
    · rw [if_pos ⟨rfl, q⟩]
    · rw [if_neg (fun z => q z.2)]
      have := h.zm j w hw (by omega)
      omega)
  have e2 : kv_sum K 9 w = 0 := ce_sum_z (fun j hj => (h.z9 w hw (by omega) j hj).1)
  have e3 := ce_sum_up (f := fun v => kv_sum K 9 v) (f1 := fun v => kv_sum (kv_bri K w) 9 v) (n := 6) (m := w) hw (fun j hj hne => e0 j hj hne)
  rw [ce_sum_36, ce_sum_36]
  have e3 : ce_sum (fun v => kv_sum (kv_bri K w) 9 v) 6 + kv_sum K 9 w = ce_sum (fun v => kv_sum K 9 v) 6 + kv_sum (kv_bri K w) 9 w := e3
  show ce_sum (fun v => kv_sum (kv_bri K w) 9 v) 6 = ce_sum (fun v => kv_sum K 9 v) 6 + kv_sum K 8 w
  omega
theorem fm_owe2 (h : kv_cl K) (hj : kj K O) (hw : w < K 0 1) (h5 : K 5 w = 0) (hm : m < K 0 0) : (ko_bri (kv_all K w) w (ko_all K w O) m).toInt64 = (O m).toInt64 + lN (K 2 w * kv_all K w 8 (m * 6 + w)) := by
  have h6 := h.me
  have h7 := h.wi
  have h1 := kv_half_le (h.pr w) (kv_all_8 h (w := w) (by omega) m)
  have h2 := hj.o h (m := m) (by omega)
  refine lq_a ?_ (by omega) (by omega)
  have e2 : kv_all K w 2 w = K 2 w := kv_all_ne (by decide)
  have e0 : kv_all K w 0 0 = K 0 0 := kv_all_ne (by decide)
  rw [ko_bri_i (cl_all h hw h5) (kj_all hj h (by omega) h5) (by omega) (by omega), ko_all_i h hj (by omega) h5 (by omega), e2, e0, if_pos hm, if_pos hm]
  omega
theorem fm_has (hw : w < 6) (hm : m < K 0 0) : kv_bri K w 9 (m * 6 + w) = K 8 (m * 6 + w) := by
  rw [fm_bri9 hw hw, if_pos ⟨rfl, hm⟩]
theorem fm_ord2 : kv_ord (kv_ord K m w n) m w (K 7 (m * 6 + w)) = K := by
  funext b j
  unfold kv_ord kv_up
  by_cases e : b = 7 ∧ j = m * 6 + w
  · rw [if_pos e, e.1, e.2]
  · rw [if_neg e, if_neg e]
theorem fm_ord7 : kv_ord K m w n 7 (m * 6 + w) = n := by
  unfold kv_ord
  rw [kv_up_a, if_pos rfl]
theorem fm_cor9 : kv_cor K m w 9 (m * 6 + w) = if 0 < K 4 w then K 9 (m * 6 + w) else K 9 (m * 6 + w) - 1 := by
  unfold kv_cor kv_cor1 kv_crk
  by_cases e : 0 < K 4 w
  · rw [if_pos e, if_pos e, kv_lay_ne (by decide) (by decide), kv_up_ne (by decide), kv_up_ne (by decide), kv_take_ne (by decide)]
  · rw [if_neg e, if_neg e, kv_up_a, if_pos rfl]
theorem fm_cor4 : kv_cor K m w 4 w = if 0 < K 4 w then K 4 w - 1 else K 4 w := by
  unfold kv_cor kv_cor1 kv_crk
  by_cases e : 0 < K 4 w
  · rw [if_pos e, if_pos e, kv_lay_ne (by decide) (by decide), kv_up_a, if_pos rfl]
  · rw [if_neg e, if_neg e, kv_up_ne (by decide), kv_up_ne (by decide), kv_take_ne (by decide)]
theorem fm_coro (h : kv_cl K) (hj : kj K O) (hm : m < 6) : (ko_cor K m w O m).toInt64 = (O m).toInt64 - lN (if 0 < K 4 w then 0 else K 2 w) := by
  have h2 := hj.o h (m := m) (by omega)
  have h3 := h.pr w
  refine lq_s ?_ (by omega) (by split <;> omega)
  rw [ko_cor_i h hj hm]
  by_cases e : 0 < K 4 w
  · rw [if_pos e, if_neg (fun z => z.1 e)]
  · rw [if_neg e, if_pos ⟨e, rfl⟩]
theorem fm_dri : kv_dri K m w n 9 (m * 6 + w) = K 9 (m * 6 + w) - n := by
  unfold kv_dri
  rw [kv_up_ne (by decide), kv_up_a, if_pos rfl]
theorem fm_dris (hm : m < 6) (hw : w < 6) (hn : n ≤ K 9 (m * 6 + w)) : ce_sum (kv_dri K m w n 9) 36 + n = ce_sum (K 9) 36 := by
  have h := ce_sum_up (f := K 9) (f1 := kv_dri K m w n 9) (n := 36) (m := m * 6 + w) (by omega) (fun j _ hne => by
    unfold kv_dri
    rw [kv_up_ne (by decide), kv_up_a, if_neg hne, kv_take_ne (by decide)])
  rw [fm_dri] at h
  omega
theorem fm_han1 (hmo : m ≠ o) : kv_han K m o w n 9 (m * 6 + w) = K 9 (m * 6 + w) - n := by
  unfold kv_han
  rw [kv_up_a, if_neg (by omega), kv_up_a, if_pos rfl]
theorem fm_han2 : kv_han K m o w n 9 (o * 6 + w) = K 9 (o * 6 + w) + n := by
  unfold kv_han
  rw [kv_up_a, if_pos rfl]
theorem fm_hans (hm : m < 6) (ho : o < 6) (hw : w < 6) (hmo : m ≠ o) (hn : n ≤ K 9 (m * 6 + w)) : ce_sum (kv_han K m o w n 9) 36 = ce_sum (K 9) 36 := by
  have h1 := ce_sum_up (f := K 9) (f1 := kv_up K 9 (m * 6 + w) (K 9 (m * 6 + w) - n) 9) (n := 36) (m := m * 6 + w) (by omega) (fun j _ hne => by rw [kv_up_a, if_neg hne])
  rw [kv_up_a, if_pos rfl] at h1
  have h2 := ce_sum_up (f := kv_up K 9 (m * 6 + w) (K 9 (m * 6 + w) - n) 9) (f1 := kv_han K m o w n 9) (n := 36) (m := o * 6 + w) (by omega) (fun j _ hne => by unfold kv_han; rw [kv_up_a, if_neg hne])
  rw [fm_han2, kv_up_a, if_neg (by omega)] at h2
  omega
end FMA
/-- the history alone is other -/
abbrev SS (K : ce_V) (O : Nat → Int32) (h : Nat × (Nat → ce_V) × (Nat → Nat → Int32)) (s : ((Nat → Bool) × (Nat → ce_V) × (Nat → Nat → Int32)) × (Nat × (Nat → Nat))) : ks_S := ((K, O), h, s)
theorem SS_of {S : ks_S} {K : ce_V} {O : Nat → Int32} {s : ((Nat → Bool) × (Nat → ce_V) × (Nat → Nat → Int32)) × (Nat × (Nat → Nat))} (h1 : S.1 = (K, O)) (h2 : S.2.2 = s) : S = SS K O S.2.1 s := by
  obtain ⟨a, b, c⟩ := S
  cases h1
  cases h2
  rfl
theorem kw_back {a : Nat} {S2 : ks_S} {σ0 σ : ce_S} {g0 g : ce_D} {K : ce_V} {O : Nat → Int32} {s : ((Nat → Bool) × (Nat → ce_V) × (Nat → Nat → Int32)) × (Nat × (Nat → Nat))} (h : kw a S2 σ0 g0 σ g) (iv : kl_iv S2) (h1 : S2.1 = (K, O)) (h2 : S2.2.2 = s) : ∃ h9, kw a (SS K O h9 s) σ0 g0 σ g ∧ kl_iv (SS K O h9 s) := by
  obtain ⟨a9, b9, c9⟩ := S2
  cases h1
  cases h2
  exact ⟨_, h, iv⟩
theorem kc_Wu {ρ : Room} {Y Y' : ce_Y} {k pc n idx : Nat} {L : List (Option Value)} {σ : ce_S} {g : ce_D} {Q : Option Value → ce_S → ce_D → Prop} {X : String → ce_S → ce_D → Prop} {stk As rest : List Value} {a v : Nat} {S2 : ks_S} {σ0 : ce_S} {g0 : ce_D} (d : decode Y.2.1 pc = .ok (.invokestatic idx, 3)) (hY : ce_MH Y' n) (hl : Cond.methodLink Y.1.cls idx Y'.1 ∈ lw_tbl) (hv : v ≤ 14) (hC : ce_CT (ce_rl 0 1) Y' As σ g (kq σ0 g0 a S2 (lN v)) ce_no) (hst : stk = As.reverse ++ rest) (hn : As.length = n)
    (hR : ce_rm ρ (ce_rl 0 1) Y'.2.2.1) (hrest : (rest.map fun v => v.category).sum ≤ 8) (hs : ρ.slots = 6 * ρ.cells) (hcc : k + 1 ≤ ρ.cells)
    (kk : ∀ u, u ≤ 14 → ∀ σ' g', kw a S2 σ0 g0 σ' g' → ce_WP ρ Y (k + 1) (6 * (k + 1)) (pc + 3) L (.long (lN u) :: rest) σ' g' Q X) : ce_WP ρ Y k (6 * k) pc L stk σ g Q X :=
  kc_Wk d hY hl hC hst hn hR hrest hs hcc (kk v hv)
