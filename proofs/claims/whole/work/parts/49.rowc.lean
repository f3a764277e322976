set_option maxHeartbeats 2000000 in
set_option maxRecDepth 20000 in
theorem w_X8_tightest {σ : ce_S} {g : ce_D} (r : Nat) (F : ce_V) (O : Nat → Int32) (hA : ce_LA σ 10 r 189) (hr : cr_row (g r) F O) (w : Nat) (hw : w < 6) (hk : kv_rk F) : ∀ (n9 i : Nat), F 0 2 - i < n9 → i ≤ F 0 2 → ce_WP (ce_r 2) mX8_tightest 0 0 5 [some (.ref (r)), some (.int (nI (w))), some (.int (ce_o (kv_fill F w i))), some (.int (nI (i))), none] [] σ g (ce_pv (ce_o (kv_fill F w (F 0 2))) σ g) ce_no := by
  intro n9
  induction n9 with
  | zero =>
    intros
    omega
  | succ n9 ih =>
    intro i hm hi
    have hB := hk.1
    have h12 := hk.2.1 i
    cases hp : kv_fill F w i with
    | none =>
      show ce_WP (ce_r 2) mX8_tightest 0 0 5 [some (.ref (r)), some (.int (nI (w))), some (.int ((-99999))), some (.int (nI (i))), none] [] σ g (ce_pv (ce_o (kv_fill F w (F 0 2))) σ g) ce_no
      refine ce_iload_n dX8_tightest_5 rfl ?_
      refine ce_aload_n dX8_tightest_6 rfl ?_
      refine ce_iconst (v := nI (2)) dX8_tightest_7 (by decide) ?_
      refine ce_ialdv dX8_tightest_8 (hA).1 rfl (hA).2 (by omega) (by decide) ((hr).c2) ?_
      refine ce_icmp_geN (tgt := 72) dX8_tightest_9 (by decide) rfl rfl (by omega) (by omega) (fun c_9 => ?_) (fun c_9 => ?_)
      · refine ce_iload_n dX8_tightest_72 rfl ?_
        refine ce_iret dX8_tightest_73 rfl rfl (by decide) (by decide) ?_
        exact ⟨congrArg (fun z => some (Value.int z)) (by rw [show i = F 0 2 by omega] at hp; rw [hp]; rfl), rfl, rfl⟩
      · refine ce_aload_n dX8_tightest_12 rfl ?_
        refine ce_iload_n dX8_tightest_13 rfl ?_
        refine ce_iload_n dX8_tightest_14 rfl ?_
        refine ce_cSp dX8_tightest_15 hX8_hasWine kRX8_66 (m_X8_hasWine (r) F O ⟨(hA).1, (hA).2⟩ hr (i) (w) (by omega) (by omega) hk) rfl rfl (by decide) (Nat.le_of_ble_eq_true rfl) ?_
        refine ce_if_eqB (tgt := 33) dX8_tightest_18 (by decide) rfl (fun c_18 => ?_) (fun c_18 => ?_)
        · refine ce_iconst (v := nI (0)) dX8_tightest_33 (by decide) ?_
          refine ce_istore dX8_tightest_34 (Nat.le_of_ble_eq_true rfl) rfl ?_
          refine ce_iload dX8_tightest_36 rfl ?_
          refine ce_if_eqN (tgt := 64) dX8_tightest_38 (by decide) rfl (by omega) (fun c_38 => ?_) (fun c_38 => ?_)
          · refine ce_iload_n dX8_tightest_64 rfl ?_
            refine ce_istore_n dX8_tightest_65 (Nat.le_of_ble_eq_true rfl) rfl ?_
            refine ce_iinc (v := nI (i + 1)) dX8_tightest_66 rfl (ce_inc1 _) (Nat.le_of_ble_eq_true rfl) rfl ?_
            refine ce_goto (tgt := 5) dX8_tightest_69 (by decide) ?_
            refine ce_drop (L' := [some (.ref (r)), some (.int (nI (w))), some (.int ((-99999))), some (.int (nI (i + 1))), none]) (ce_le_s rfl (ce_le_s rfl (ce_le_s rfl (ce_le_s rfl (ce_le_n ce_le_e))))) ?_
            have e9 : kv_fill F w (i + 1) = none := by
              unfold kv_fill
              rw [hp]
              dsimp only
              (repeat' split) <;> first | rfl | (exfalso; omega)
            have e8 := ih (i + 1) (by omega) (by omega)
            rw [e9] at e8
            exact e8
          · omega
        · refine ce_aload_n dX8_tightest_21 rfl ?_
          refine ce_iload_n dX8_tightest_22 rfl ?_
          refine ce_cSp dX8_tightest_23 hX8_roomIn kRX8_70 (m_X8_roomIn (r) F O ⟨(hA).1, (hA).2⟩ hr (i) (by omega) (by first | omega | exact (hk.2.1 _).1)) rfl rfl (by decide) (Nat.le_of_ble_eq_true rfl) ?_
          refine ce_if_leN (tgt := 33) dX8_tightest_26 (by decide) rfl (by omega) (fun c_26 => ?_) (fun c_26 => ?_)
          · refine ce_iconst (v := nI (0)) dX8_tightest_33 (by decide) ?_
            refine ce_istore dX8_tightest_34 (Nat.le_of_ble_eq_true rfl) rfl ?_
            refine ce_iload dX8_tightest_36 rfl ?_
            refine ce_if_eqN (tgt := 64) dX8_tightest_38 (by decide) rfl (by omega) (fun c_38 => ?_) (fun c_38 => ?_)
            · refine ce_iload_n dX8_tightest_64 rfl ?_
              refine ce_istore_n dX8_tightest_65 (Nat.le_of_ble_eq_true rfl) rfl ?_
              refine ce_iinc (v := nI (i + 1)) dX8_tightest_66 rfl (ce_inc1 _) (Nat.le_of_ble_eq_true rfl) rfl ?_
              refine ce_goto (tgt := 5) dX8_tightest_69 (by decide) ?_
              refine ce_drop (L' := [some (.ref (r)), some (.int (nI (w))), some (.int ((-99999))), some (.int (nI (i + 1))), none]) (ce_le_s rfl (ce_le_s rfl (ce_le_s rfl (ce_le_s rfl (ce_le_n ce_le_e))))) ?_
              have e9 : kv_fill F w (i + 1) = none := by
                unfold kv_fill
                rw [hp]
                dsimp only
                (repeat' split) <;> first | rfl | (exfalso; omega)
              have e8 := ih (i + 1) (by omega) (by omega)
              rw [e9] at e8
              exact e8
            · omega
          · refine ce_iconst (v := nI (1)) dX8_tightest_29 (by decide) ?_
            refine ce_goto (tgt := 34) dX8_tightest_30 (by decide) ?_
            refine ce_istore dX8_tightest_34 (Nat.le_of_ble_eq_true rfl) rfl ?_
            refine ce_iload dX8_tightest_36 rfl ?_
            refine ce_if_eqN (tgt := 64) dX8_tightest_38 (by decide) rfl (by omega) (fun c_38 => ?_) (fun c_38 => ?_)
            · omega
            · refine ce_iload_n dX8_tightest_41 rfl ?_
              refine ce_ldc dX8_tightest_42 kRX8_65 ?_
              refine ce_icmp_eqI (p := (-99999)) (q := (-99999)) (tgt := 60) dX8_tightest_44 (by decide) (by decide) (by decide) (fun c_44 => ?_) (fun c_44 => ?_)
              · refine ce_iload_n dX8_tightest_60 rfl ?_
                refine ce_goto (tgt := 65) dX8_tightest_61 (by decide) ?_
                refine ce_istore_n dX8_tightest_65 (Nat.le_of_ble_eq_true rfl) rfl ?_
                refine ce_iinc (v := nI (i + 1)) dX8_tightest_66 rfl (ce_inc1 _) (Nat.le_of_ble_eq_true rfl) rfl ?_
                refine ce_goto (tgt := 5) dX8_tightest_69 (by decide) ?_
                refine ce_drop (L' := [some (.ref (r)), some (.int (nI (w))), some (.int (nI (i))), some (.int (nI (i + 1))), none]) (ce_le_s rfl (ce_le_s rfl (ce_le_s rfl (ce_le_s rfl (ce_le_n ce_le_e))))) ?_
                have e9 : kv_fill F w (i + 1) = some (i) := by
                  unfold kv_fill
                  rw [hp]
                  dsimp only
                  (repeat' split) <;> first | rfl | (exfalso; omega)
                have e8 := ih (i + 1) (by omega) (by omega)
                rw [e9] at e8
                exact e8
              · omega
    | some o =>
      have hc := kv_fill_lt hp
      have ho12 := hk.2.1 o
      show ce_WP (ce_r 2) mX8_tightest 0 0 5 [some (.ref (r)), some (.int (nI (w))), some (.int (nI (o))), some (.int (nI (i))), none] [] σ g (ce_pv (ce_o (kv_fill F w (F 0 2))) σ g) ce_no
      refine ce_iload_n dX8_tightest_5 rfl ?_
      refine ce_aload_n dX8_tightest_6 rfl ?_
      refine ce_iconst (v := nI (2)) dX8_tightest_7 (by decide) ?_
      refine ce_ialdv dX8_tightest_8 (hA).1 rfl (hA).2 (by omega) (by decide) ((hr).c2) ?_
      refine ce_icmp_geN (tgt := 72) dX8_tightest_9 (by decide) rfl rfl (by omega) (by omega) (fun c_9 => ?_) (fun c_9 => ?_)
      · refine ce_iload_n dX8_tightest_72 rfl ?_
        refine ce_iret dX8_tightest_73 rfl rfl (by decide) (by decide) ?_
        exact ⟨congrArg (fun z => some (Value.int z)) (by rw [show i = F 0 2 by omega] at hp; rw [hp]; rfl), rfl, rfl⟩
      · refine ce_aload_n dX8_tightest_12 rfl ?_
        refine ce_iload_n dX8_tightest_13 rfl ?_
        refine ce_iload_n dX8_tightest_14 rfl ?_
        refine ce_cSp dX8_tightest_15 hX8_hasWine kRX8_66 (m_X8_hasWine (r) F O ⟨(hA).1, (hA).2⟩ hr (i) (w) (by omega) (by omega) hk) rfl rfl (by decide) (Nat.le_of_ble_eq_true rfl) ?_
        refine ce_if_eqB (tgt := 33) dX8_tightest_18 (by decide) rfl (fun c_18 => ?_) (fun c_18 => ?_)
        · refine ce_iconst (v := nI (0)) dX8_tightest_33 (by decide) ?_
          refine ce_istore dX8_tightest_34 (Nat.le_of_ble_eq_true rfl) rfl ?_
          refine ce_iload dX8_tightest_36 rfl ?_
          refine ce_if_eqN (tgt := 64) dX8_tightest_38 (by decide) rfl (by omega) (fun c_38 => ?_) (fun c_38 => ?_)
          · refine ce_iload_n dX8_tightest_64 rfl ?_
            refine ce_istore_n dX8_tightest_65 (Nat.le_of_ble_eq_true rfl) rfl ?_
            refine ce_iinc (v := nI (i + 1)) dX8_tightest_66 rfl (ce_inc1 _) (Nat.le_of_ble_eq_true rfl) rfl ?_
            refine ce_goto (tgt := 5) dX8_tightest_69 (by decide) ?_
            refine ce_drop (L' := [some (.ref (r)), some (.int (nI (w))), some (.int (nI (o))), some (.int (nI (i + 1))), none]) (ce_le_s rfl (ce_le_s rfl (ce_le_s rfl (ce_le_s rfl (ce_le_n ce_le_e))))) ?_
            have e9 : kv_fill F w (i + 1) = some (o) := by
              unfold kv_fill
              rw [hp]
              dsimp only
              (repeat' split) <;> first | rfl | (exfalso; omega)
            have e8 := ih (i + 1) (by omega) (by omega)
            rw [e9] at e8
            exact e8
          · omega
        · refine ce_aload_n dX8_tightest_21 rfl ?_
          refine ce_iload_n dX8_tightest_22 rfl ?_
          refine ce_cSp dX8_tightest_23 hX8_roomIn kRX8_70 (m_X8_roomIn (r) F O ⟨(hA).1, (hA).2⟩ hr (i) (by omega) (by first | omega | exact (hk.2.1 _).1)) rfl rfl (by decide) (Nat.le_of_ble_eq_true rfl) ?_
          refine ce_if_leN (tgt := 33) dX8_tightest_26 (by decide) rfl (by omega) (fun c_26 => ?_) (fun c_26 => ?_)
          · refine ce_iconst (v := nI (0)) dX8_tightest_33 (by decide) ?_
            refine ce_istore dX8_tightest_34 (Nat.le_of_ble_eq_true rfl) rfl ?_
            refine ce_iload dX8_tightest_36 rfl ?_
            refine ce_if_eqN (tgt := 64) dX8_tightest_38 (by decide) rfl (by omega) (fun c_38 => ?_) (fun c_38 => ?_)
            · refine ce_iload_n dX8_tightest_64 rfl ?_
              refine ce_istore_n dX8_tightest_65 (Nat.le_of_ble_eq_true rfl) rfl ?_
              refine ce_iinc (v := nI (i + 1)) dX8_tightest_66 rfl (ce_inc1 _) (Nat.le_of_ble_eq_true rfl) rfl ?_
              refine ce_goto (tgt := 5) dX8_tightest_69 (by decide) ?_
              refine ce_drop (L' := [some (.ref (r)), some (.int (nI (w))), some (.int (nI (o))), some (.int (nI (i + 1))), none]) (ce_le_s rfl (ce_le_s rfl (ce_le_s rfl (ce_le_s rfl (ce_le_n ce_le_e))))) ?_
              have e9 : kv_fill F w (i + 1) = some (o) := by
                unfold kv_fill
                rw [hp]
                dsimp only
                (repeat' split) <;> first | rfl | (exfalso; omega)
              have e8 := ih (i + 1) (by omega) (by omega)
              rw [e9] at e8
              exact e8
            · omega
          · refine ce_iconst (v := nI (1)) dX8_tightest_29 (by decide) ?_
            refine ce_goto (tgt := 34) dX8_tightest_30 (by decide) ?_
            refine ce_istore dX8_tightest_34 (Nat.le_of_ble_eq_true rfl) rfl ?_
            refine ce_iload dX8_tightest_36 rfl ?_
            refine ce_if_eqN (tgt := 64) dX8_tightest_38 (by decide) rfl (by omega) (fun c_38 => ?_) (fun c_38 => ?_)
            · omega
            · refine ce_iload_n dX8_tightest_41 rfl ?_
              refine ce_ldc dX8_tightest_42 kRX8_65 ?_
              refine ce_icmp_eqI (p := ((o : Nat) : Int)) (q := (-99999)) (tgt := 60) dX8_tightest_44 (by decide) (nI_toInt (by omega)) (by decide) (fun c_44 => ?_) (fun c_44 => ?_)
              · omega
              · refine ce_aload_n dX8_tightest_47 rfl ?_
                refine ce_iload_n dX8_tightest_48 rfl ?_
                refine ce_cSp dX8_tightest_49 hX8_roomIn kRX8_70 (m_X8_roomIn (r) F O ⟨(hA).1, (hA).2⟩ hr (i) (by omega) (by first | omega | exact (hk.2.1 _).1)) rfl rfl (by decide) (Nat.le_of_ble_eq_true rfl) ?_
                refine ce_aload_n dX8_tightest_52 rfl ?_
                refine ce_iload_n dX8_tightest_53 rfl ?_
                refine ce_cSp dX8_tightest_54 hX8_roomIn kRX8_70 (m_X8_roomIn (r) F O ⟨(hA).1, (hA).2⟩ hr (o) (by omega) (by first | omega | exact (hk.2.1 _).1)) rfl rfl (by decide) (Nat.le_of_ble_eq_true rfl) ?_
                refine ce_icmp_geN (tgt := 64) dX8_tightest_57 (by decide) rfl rfl (by omega) (by omega) (fun c_57 => ?_) (fun c_57 => ?_)
                · refine ce_iload_n dX8_tightest_64 rfl ?_
                  refine ce_istore_n dX8_tightest_65 (Nat.le_of_ble_eq_true rfl) rfl ?_
                  refine ce_iinc (v := nI (i + 1)) dX8_tightest_66 rfl (ce_inc1 _) (Nat.le_of_ble_eq_true rfl) rfl ?_
                  refine ce_goto (tgt := 5) dX8_tightest_69 (by decide) ?_
                  refine ce_drop (L' := [some (.ref (r)), some (.int (nI (w))), some (.int (nI (o))), some (.int (nI (i + 1))), none]) (ce_le_s rfl (ce_le_s rfl (ce_le_s rfl (ce_le_s rfl (ce_le_n ce_le_e))))) ?_
                  have e9 : kv_fill F w (i + 1) = some (o) := by
                    unfold kv_fill
                    rw [hp]
                    dsimp only
                    (repeat' split) <;> first | rfl | (exfalso; omega)
                  have e8 := ih (i + 1) (by omega) (by omega)
                  rw [e9] at e8
                  exact e8
                · refine ce_iload_n dX8_tightest_60 rfl ?_
                  refine ce_goto (tgt := 65) dX8_tightest_61 (by decide) ?_
                  refine ce_istore_n dX8_tightest_65 (Nat.le_of_ble_eq_true rfl) rfl ?_
                  refine ce_iinc (v := nI (i + 1)) dX8_tightest_66 rfl (ce_inc1 _) (Nat.le_of_ble_eq_true rfl) rfl ?_
                  refine ce_goto (tgt := 5) dX8_tightest_69 (by decide) ?_
                  refine ce_drop (L' := [some (.ref (r)), some (.int (nI (w))), some (.int (nI (i))), some (.int (nI (i + 1))), none]) (ce_le_s rfl (ce_le_s rfl (ce_le_s rfl (ce_le_s rfl (ce_le_n ce_le_e))))) ?_
                  have e9 : kv_fill F w (i + 1) = some (i) := by
                    unfold kv_fill
                    rw [hp]
                    dsimp only
                    (repeat' split) <;> first | rfl | (exfalso; omega)
                  have e8 := ih (i + 1) (by omega) (by omega)
                  rw [e9] at e8
                  exact e8
set_option maxHeartbeats 2000000 in
set_option maxRecDepth 20000 in
theorem m_X8_tightest {σ : ce_S} {g : ce_D} (r : Nat) (F : ce_V) (O : Nat → Int32) (hA : ce_LA σ 10 r 189) (hr : cr_row (g r) F O) (w : Nat) (hw : w < 6) (hk : kv_rk F) : ce_CT (ce_r 2) mX8_tightest [.ref (r), .int (nI (w))] σ g (ce_pv (ce_o (kv_fill F w (F 0 2))) σ g) ce_no := by
  refine ce_enter (by decide) rfl (Nat.le_of_ble_eq_true rfl) (L := [some (.ref (r)), some (.int (nI (w))), none, none, none]) rfl ?_
  refine ce_ldc dX8_tightest_0 kRX8_65 ?_
  refine ce_istore_n dX8_tightest_2 (Nat.le_of_ble_eq_true rfl) rfl ?_
  refine ce_iconst (v := nI (0)) dX8_tightest_3 (by decide) ?_
  refine ce_istore_n dX8_tightest_4 (Nat.le_of_ble_eq_true rfl) rfl ?_
  exact w_X8_tightest r F O hA hr w hw hk (F 0 2 + 1) 0 (by omega) (by omega)
/-- the empty bin, as the reference finds it: the smallest with room, the greatest -/
def kv_es (F : ce_V) (q : Nat) : Nat → Option Nat
  | 0 => none
  | n + 1 => if F 12 n = 0 ∧ q ≤ F 11 n then (match kv_es F q n with
    | none => some n
    | some c => if F 11 n < F 11 c then some n else some c) else kv_es F q n
def kv_eg (F : ce_V) : Nat → Option Nat
  | 0 => none
  | n + 1 => if F 12 n = 0 then (match kv_eg F n with
    | none => some n
    | some c => if F 11 c < F 11 n then some n else some c) else kv_eg F n
theorem kv_eb_or {F : ce_V} {q : Nat} : ∀ n, (∀ c, kv_es F q n = some c → q ≤ F 11 c ∧ c < n) ∧ (kv_es F q n = none → ∀ c, kv_eg F n = some c → F 11 c < q) ∧ (∀ c, kv_eg F n = some c → c < n) ∧ kv_eb F q n = (kv_es F q n).or (kv_eg F n)
  | 0 => ⟨fun c h => (by cases h), fun _ c h => (by cases h), fun c h => (by cases h), rfl⟩
  | n + 1 => by
    obtain ⟨h1, h2, h3, h4⟩ := kv_eb_or (F := F) (q := q) n
    unfold kv_es kv_eg kv_eb
    rw [h4]
    by_cases e : F 12 n = 0
    · rw [if_pos e, if_pos e]
      by_cases e2 : q ≤ F 11 n
      · rw [if_pos ⟨e, e2⟩]
        cases hs : kv_es F q n with
        | none =>
          cases hg : kv_eg F n with
          | none => exact ⟨fun c h => by cases h; exact ⟨e2, by omega⟩, fun h => (by cases h), fun c h => by cases h; omega, rfl⟩
          | some c =>
            have h5 := h2 hs c hg
            have h6 := h3 c hg
            refine ⟨fun c h => by cases h; exact ⟨e2, by omega⟩, fun h => (by cases h), fun d h => ?_, ?_⟩
            · dsimp only at h
              split at h <;> cases h <;> omega
            · show (if _ then some n else some c) = some n
              rw [if_pos (by omega)]
        | some s =>
          have h5 := h1 s hs
          refine ⟨fun c h => ?_, fun h => ?_, fun c h => ?_, ?_⟩
          · dsimp only at h
            split at h <;> cases h <;> omega
          · dsimp only at h
            split at h <;> cases h
          · cases hg : kv_eg F n with
            | none => rw [hg] at h; cases h; omega
            | some d =>
              have := h3 d hg
              rw [hg] at h
              dsimp only at h
              split at h <;> cases h <;> omega
          · show (if _ then some n else some s) = (if _ then some n else some s).or _
            by_cases q2 : F 11 n < F 11 s
            · rw [if_pos (by omega), if_pos q2]; rfl
            · rw [if_neg (by omega), if_neg q2]; rfl
      · rw [if_neg (fun h => e2 h.2)]
        cases hs : kv_es F q n with
        | none =>
          cases hg : kv_eg F n with
          | none => exact ⟨fun c h => (by cases h), fun _ c h => by cases h; omega, fun c h => by cases h; omega, rfl⟩
          | some c =>
            have h5 := h2 hs c hg
            have h6 := h3 c hg
            refine ⟨fun c h => (by cases h), fun _ d h => ?_, fun d h => ?_, ?_⟩
            · dsimp only at h
              split at h <;> cases h <;> omega
            · dsimp only at h
              split at h <;> cases h <;> omega
            · show (if _ then some n else some c) = (if _ then some n else some c)
              by_cases q2 : F 11 c < F 11 n
              · rw [if_pos (by omega), if_pos q2]
              · rw [if_neg (by omega), if_neg q2]
        | some s =>
          have h5 := h1 s hs
          refine ⟨fun c h => by cases h; omega, fun h => (by cases h), fun c h => ?_, ?_⟩
          · cases hg : kv_eg F n with
            | none => rw [hg] at h; cases h; omega
            | some d =>
              have := h3 d hg
              rw [hg] at h
              dsimp only at h
              split at h <;> cases h <;> omega
          · show (if _ then some n else some s) = some s
            rw [if_neg (by omega)]
    · rw [if_neg e, if_neg e, if_neg (fun h => e h.1)]
      exact ⟨fun c h => by have := h1 c h; omega, h2, fun c h => by have := h3 c h; omega, rfl⟩
set_option maxHeartbeats 2000000 in
set_option maxRecDepth 20000 in
theorem w_X8_emptyFor {σ : ce_S} {g : ce_D} (r : Nat) (F : ce_V) (O : Nat → Int32) (hA : ce_LA σ 10 r 189) (hr : cr_row (g r) F O) (q : Nat) (hq : 1 ≤ q ∧ q ≤ 1000) (hk : kv_rk F) : ∀ (n9 i : Nat), F 0 2 - i < n9 → i ≤ F 0 2 → ce_WP (ce_r 2) mX8_emptyFor 0 0 9 [some (.ref (r)), some (.int (nI (q))), some (.int (ce_o (kv_es F q i))), some (.int (ce_o (kv_eg F i))), some (.int (nI (i))), none] [] σ g (ce_pv (ce_o (kv_eb F q (F 0 2))) σ g) ce_no := by
  intro n9
  induction n9 with
  | zero =>
    intros
    omega
  | succ n9 ih =>
    intro i hm hi
    have hB := hk.1
    have h12 := hk.2.1 i
    have h1 := hk.2.2.2.2 i
    have hor := kv_eb_or (F := F) (q := q) i
    cases hs : kv_es F q i with
    | none =>
      cases hg : kv_eg F i with
      | none =>
        show ce_WP (ce_r 2) mX8_emptyFor 0 0 9 [some (.ref (r)), some (.int (nI (q))), some (.int ((-99999))), some (.int ((-99999))), some (.int (nI (i))), none] [] σ g (ce_pv (ce_o (kv_eb F q (F 0 2))) σ g) ce_no
        refine ce_iload dX8_emptyFor_9 rfl ?_
        refine ce_aload_n dX8_emptyFor_11 rfl ?_
        refine ce_iconst (v := nI (2)) dX8_emptyFor_12 (by decide) ?_
        refine ce_ialdv dX8_emptyFor_13 (hA).1 rfl (hA).2 (by omega) (by decide) ((hr).c2) ?_
        refine ce_icmp_geN (tgt := 107) dX8_emptyFor_14 (by decide) rfl rfl (by omega) (by omega) (fun c_14 => ?_) (fun c_14 => ?_)
        · refine ce_iload_n dX8_emptyFor_107 rfl ?_
          refine ce_ldc dX8_emptyFor_108 kRX8_65 ?_
          refine ce_icmp_neI (p := (-99999)) (q := (-99999)) (tgt := 117) dX8_emptyFor_110 (by decide) (by decide) (by decide) (fun c_110 => ?_) (fun c_110 => ?_)
          · omega
          · refine ce_iload_n dX8_emptyFor_113 rfl ?_
            refine ce_goto (tgt := 118) dX8_emptyFor_114 (by decide) ?_
            refine ce_iret dX8_emptyFor_118 rfl rfl (by decide) (by decide) ?_
            exact ⟨congrArg (fun z => some (Value.int z)) (by rw [show i = F 0 2 by omega] at hor hs hg; rw [hor.2.2.2, hs, hg]; rfl), rfl, rfl⟩
        · refine ce_aload_n dX8_emptyFor_17 rfl ?_
          refine ce_iload dX8_emptyFor_18 rfl ?_
          refine ce_cSp dX8_emptyFor_20 hX8_binAt kRX8_58 (m_X8_binAt (i)) rfl rfl (by decide) (Nat.le_of_ble_eq_true rfl) ?_
          refine ce_iconst (v := nI (2)) dX8_emptyFor_23 (by decide) ?_
          refine ce_iadd (z := nI (57 + 3 * i + 2)) dX8_emptyFor_24 (nI_add _ _) ?_
          refine ce_ialdv dX8_emptyFor_25 (hA).1 rfl (hA).2 (by omega) (by decide) ((hr).b2 (by omega)) ?_
          refine ce_if_neN (tgt := 39) dX8_emptyFor_26 (by decide) rfl (by omega) (fun c_26 => ?_) (fun c_26 => ?_)
          · refine ce_iconst (v := nI (0)) dX8_emptyFor_39 (by decide) ?_
            refine ce_istore dX8_emptyFor_40 (Nat.le_of_ble_eq_true rfl) rfl ?_
            refine ce_iload dX8_emptyFor_42 rfl ?_
            refine ce_iload_n dX8_emptyFor_44 rfl ?_
            refine ce_icmp_ltN (tgt := 70) dX8_emptyFor_45 (by decide) rfl rfl (by omega) (by omega) (fun c_45 => ?_) (fun c_45 => ?_)
            · refine ce_iload_n dX8_emptyFor_70 rfl ?_
              refine ce_istore_n dX8_emptyFor_71 (Nat.le_of_ble_eq_true rfl) rfl ?_
              refine ce_iload dX8_emptyFor_72 rfl ?_
              refine ce_if_leN (tgt := 99) dX8_emptyFor_74 (by decide) rfl (by omega) (fun c_74 => ?_) (fun c_74 => ?_)
              · refine ce_iload_n dX8_emptyFor_99 rfl ?_
                refine ce_istore_n dX8_emptyFor_100 (Nat.le_of_ble_eq_true rfl) rfl ?_
                refine ce_iinc (v := nI (i + 1)) dX8_emptyFor_101 rfl (ce_inc1 _) (Nat.le_of_ble_eq_true rfl) rfl ?_
                refine ce_goto (tgt := 9) dX8_emptyFor_104 (by decide) ?_
                refine ce_drop (L' := [some (.ref (r)), some (.int (nI (q))), some (.int ((-99999))), some (.int ((-99999))), some (.int (nI (i + 1))), none]) (ce_le_s rfl (ce_le_s rfl (ce_le_s rfl (ce_le_s rfl (ce_le_s rfl (ce_le_n ce_le_e)))))) ?_
                have e9 : kv_es F q (i + 1) = none := by
                  unfold kv_es
                  rw [hs]
                  dsimp only
                  (repeat' split) <;> first | rfl | (exfalso; omega)
                have e8 : kv_eg F (i + 1) = none := by
                  unfold kv_eg
                  rw [hg]
                  dsimp only
                  (repeat' split) <;> first | rfl | (exfalso; omega)
                have e7 := ih (i + 1) (by omega) (by omega)
                rw [e9, e8] at e7
                exact e7
              · omega
            · refine ce_iload_n dX8_emptyFor_48 rfl ?_
              refine ce_ldc dX8_emptyFor_49 kRX8_65 ?_
              refine ce_icmp_eqI (p := (-99999)) (q := (-99999)) (tgt := 65) dX8_emptyFor_51 (by decide) (by decide) (by decide) (fun c_51 => ?_) (fun c_51 => ?_)
              · refine ce_iload dX8_emptyFor_65 rfl ?_
                refine ce_goto (tgt := 71) dX8_emptyFor_67 (by decide) ?_
                refine ce_istore_n dX8_emptyFor_71 (Nat.le_of_ble_eq_true rfl) rfl ?_
                refine ce_iload dX8_emptyFor_72 rfl ?_
                refine ce_if_leN (tgt := 99) dX8_emptyFor_74 (by decide) rfl (by omega) (fun c_74 => ?_) (fun c_74 => ?_)
                · refine ce_iload_n dX8_emptyFor_99 rfl ?_
                  refine ce_istore_n dX8_emptyFor_100 (Nat.le_of_ble_eq_true rfl) rfl ?_
                  refine ce_iinc (v := nI (i + 1)) dX8_emptyFor_101 rfl (ce_inc1 _) (Nat.le_of_ble_eq_true rfl) rfl ?_
                  refine ce_goto (tgt := 9) dX8_emptyFor_104 (by decide) ?_
                  refine ce_drop (L' := [some (.ref (r)), some (.int (nI (q))), some (.int (nI (i))), some (.int ((-99999))), some (.int (nI (i + 1))), none]) (ce_le_s rfl (ce_le_s rfl (ce_le_s rfl (ce_le_s rfl (ce_le_s rfl (ce_le_n ce_le_e)))))) ?_
                  have e9 : kv_es F q (i + 1) = some (i) := by
                    unfold kv_es
                    rw [hs]
                    dsimp only
                    (repeat' split) <;> first | rfl | (exfalso; omega)
                  have e8 : kv_eg F (i + 1) = none := by
                    unfold kv_eg
                    rw [hg]
                    dsimp only
                    (repeat' split) <;> first | rfl | (exfalso; omega)
                  have e7 := ih (i + 1) (by omega) (by omega)
                  rw [e9, e8] at e7
                  exact e7
                · omega
              · omega
          · refine ce_aload_n dX8_emptyFor_29 rfl ?_
            refine ce_iload dX8_emptyFor_30 rfl ?_
            refine ce_cSp dX8_emptyFor_32 hX8_binAt kRX8_58 (m_X8_binAt (i)) rfl rfl (by decide) (Nat.le_of_ble_eq_true rfl) ?_
            refine ce_ialdv dX8_emptyFor_35 (hA).1 rfl (hA).2 (by omega) (by decide) ((hr).b0 (by omega)) ?_
            refine ce_goto (tgt := 40) dX8_emptyFor_36 (by decide) ?_
            refine ce_istore dX8_emptyFor_40 (Nat.le_of_ble_eq_true rfl) rfl ?_
            refine ce_iload dX8_emptyFor_42 rfl ?_
            refine ce_iload_n dX8_emptyFor_44 rfl ?_
            refine ce_icmp_ltN (tgt := 70) dX8_emptyFor_45 (by decide) rfl rfl (by omega) (by omega) (fun c_45 => ?_) (fun c_45 => ?_)
            · refine ce_iload_n dX8_emptyFor_70 rfl ?_
              refine ce_istore_n dX8_emptyFor_71 (Nat.le_of_ble_eq_true rfl) rfl ?_
              refine ce_iload dX8_emptyFor_72 rfl ?_
              refine ce_if_leN (tgt := 99) dX8_emptyFor_74 (by decide) rfl (by omega) (fun c_74 => ?_) (fun c_74 => ?_)
              · refine ce_iload_n dX8_emptyFor_99 rfl ?_
                refine ce_istore_n dX8_emptyFor_100 (Nat.le_of_ble_eq_true rfl) rfl ?_
                refine ce_iinc (v := nI (i + 1)) dX8_emptyFor_101 rfl (ce_inc1 _) (Nat.le_of_ble_eq_true rfl) rfl ?_
                refine ce_goto (tgt := 9) dX8_emptyFor_104 (by decide) ?_
                refine ce_drop (L' := [some (.ref (r)), some (.int (nI (q))), some (.int ((-99999))), some (.int ((-99999))), some (.int (nI (i + 1))), none]) (ce_le_s rfl (ce_le_s rfl (ce_le_s rfl (ce_le_s rfl (ce_le_s rfl (ce_le_n ce_le_e)))))) ?_
                have e9 : kv_es F q (i + 1) = none := by
                  unfold kv_es
                  rw [hs]
                  dsimp only
                  (repeat' split) <;> first | rfl | (exfalso; omega)
                have e8 : kv_eg F (i + 1) = none := by
                  unfold kv_eg
                  rw [hg]
                  dsimp only
                  (repeat' split) <;> first | rfl | (exfalso; omega)
                have e7 := ih (i + 1) (by omega) (by omega)
                rw [e9, e8] at e7
                exact e7
              · refine ce_iload_n dX8_emptyFor_77 rfl ?_
                refine ce_ldc dX8_emptyFor_78 kRX8_65 ?_
                refine ce_icmp_eqI (p := (-99999)) (q := (-99999)) (tgt := 94) dX8_emptyFor_80 (by decide) (by decide) (by decide) (fun c_80 => ?_) (fun c_80 => ?_)
                · refine ce_iload dX8_emptyFor_94 rfl ?_
                  refine ce_goto (tgt := 100) dX8_emptyFor_96 (by decide) ?_
                  refine ce_istore_n dX8_emptyFor_100 (Nat.le_of_ble_eq_true rfl) rfl ?_
                  refine ce_iinc (v := nI (i + 1)) dX8_emptyFor_101 rfl (ce_inc1 _) (Nat.le_of_ble_eq_true rfl) rfl ?_
                  refine ce_goto (tgt := 9) dX8_emptyFor_104 (by decide) ?_
                  refine ce_drop (L' := [some (.ref (r)), some (.int (nI (q))), some (.int ((-99999))), some (.int (nI (i))), some (.int (nI (i + 1))), none]) (ce_le_s rfl (ce_le_s rfl (ce_le_s rfl (ce_le_s rfl (ce_le_s rfl (ce_le_n ce_le_e)))))) ?_
                  have e9 : kv_es F q (i + 1) = none := by
                    unfold kv_es
                    rw [hs]
                    dsimp only
                    (repeat' split) <;> first | rfl | (exfalso; omega)
                  have e8 : kv_eg F (i + 1) = some (i) := by
                    unfold kv_eg
                    rw [hg]
                    dsimp only
                    (repeat' split) <;> first | rfl | (exfalso; omega)
                  have e7 := ih (i + 1) (by omega) (by omega)
                  rw [e9, e8] at e7
                  exact e7
                · omega
            · refine ce_iload_n dX8_emptyFor_48 rfl ?_
              refine ce_ldc dX8_emptyFor_49 kRX8_65 ?_
              refine ce_icmp_eqI (p := (-99999)) (q := (-99999)) (tgt := 65) dX8_emptyFor_51 (by decide) (by decide) (by decide) (fun c_51 => ?_) (fun c_51 => ?_)
              · refine ce_iload dX8_emptyFor_65 rfl ?_
                refine ce_goto (tgt := 71) dX8_emptyFor_67 (by decide) ?_
                refine ce_istore_n dX8_emptyFor_71 (Nat.le_of_ble_eq_true rfl) rfl ?_
                refine ce_iload dX8_emptyFor_72 rfl ?_
                refine ce_if_leN (tgt := 99) dX8_emptyFor_74 (by decide) rfl (by omega) (fun c_74 => ?_) (fun c_74 => ?_)
                · refine ce_iload_n dX8_emptyFor_99 rfl ?_
                  refine ce_istore_n dX8_emptyFor_100 (Nat.le_of_ble_eq_true rfl) rfl ?_
                  refine ce_iinc (v := nI (i + 1)) dX8_emptyFor_101 rfl (ce_inc1 _) (Nat.le_of_ble_eq_true rfl) rfl ?_
                  refine ce_goto (tgt := 9) dX8_emptyFor_104 (by decide) ?_
                  refine ce_drop (L' := [some (.ref (r)), some (.int (nI (q))), some (.int (nI (i))), some (.int ((-99999))), some (.int (nI (i + 1))), none]) (ce_le_s rfl (ce_le_s rfl (ce_le_s rfl (ce_le_s rfl (ce_le_s rfl (ce_le_n ce_le_e)))))) ?_
                  have e9 : kv_es F q (i + 1) = some (i) := by
                    unfold kv_es
                    rw [hs]
                    dsimp only
                    (repeat' split) <;> first | rfl | (exfalso; omega)
                  have e8 : kv_eg F (i + 1) = none := by
                    unfold kv_eg
                    rw [hg]
                    dsimp only
                    (repeat' split) <;> first | rfl | (exfalso; omega)
                  have e7 := ih (i + 1) (by omega) (by omega)
                  rw [e9, e8] at e7
                  exact e7
                · refine ce_iload_n dX8_emptyFor_77 rfl ?_
                  refine ce_ldc dX8_emptyFor_78 kRX8_65 ?_
                  refine ce_icmp_eqI (p := (-99999)) (q := (-99999)) (tgt := 94) dX8_emptyFor_80 (by decide) (by decide) (by decide) (fun c_80 => ?_) (fun c_80 => ?_)
                  · refine ce_iload dX8_emptyFor_94 rfl ?_
                    refine ce_goto (tgt := 100) dX8_emptyFor_96 (by decide) ?_
                    refine ce_istore_n dX8_emptyFor_100 (Nat.le_of_ble_eq_true rfl) rfl ?_
                    refine ce_iinc (v := nI (i + 1)) dX8_emptyFor_101 rfl (ce_inc1 _) (Nat.le_of_ble_eq_true rfl) rfl ?_
                    refine ce_goto (tgt := 9) dX8_emptyFor_104 (by decide) ?_
                    refine ce_drop (L' := [some (.ref (r)), some (.int (nI (q))), some (.int (nI (i))), some (.int (nI (i))), some (.int (nI (i + 1))), none]) (ce_le_s rfl (ce_le_s rfl (ce_le_s rfl (ce_le_s rfl (ce_le_s rfl (ce_le_n ce_le_e)))))) ?_
                    have e9 : kv_es F q (i + 1) = some (i) := by
                      unfold kv_es
                      rw [hs]
                      dsimp only
                      (repeat' split) <;> first | rfl | (exfalso; omega)
                    have e8 : kv_eg F (i + 1) = some (i) := by
                      unfold kv_eg
                      rw [hg]
                      dsimp only
                      (repeat' split) <;> first | rfl | (exfalso; omega)
                    have e7 := ih (i + 1) (by omega) (by omega)
                    rw [e9, e8] at e7
                    exact e7
                  · omega
              · omega
      | some v =>
        have hv := hor.2.2.1 v hg
        have hv12 := hk.2.1 v
        show ce_WP (ce_r 2) mX8_emptyFor 0 0 9 [some (.ref (r)), some (.int (nI (q))), some (.int ((-99999))), some (.int (nI (v))), some (.int (nI (i))), none] [] σ g (ce_pv (ce_o (kv_eb F q (F 0 2))) σ g) ce_no
        refine ce_iload dX8_emptyFor_9 rfl ?_
        refine ce_aload_n dX8_emptyFor_11 rfl ?_
        refine ce_iconst (v := nI (2)) dX8_emptyFor_12 (by decide) ?_
        refine ce_ialdv dX8_emptyFor_13 (hA).1 rfl (hA).2 (by omega) (by decide) ((hr).c2) ?_
        refine ce_icmp_geN (tgt := 107) dX8_emptyFor_14 (by decide) rfl rfl (by omega) (by omega) (fun c_14 => ?_) (fun c_14 => ?_)
        · refine ce_iload_n dX8_emptyFor_107 rfl ?_
          refine ce_ldc dX8_emptyFor_108 kRX8_65 ?_
          refine ce_icmp_neI (p := (-99999)) (q := (-99999)) (tgt := 117) dX8_emptyFor_110 (by decide) (by decide) (by decide) (fun c_110 => ?_) (fun c_110 => ?_)
          · omega
          · refine ce_iload_n dX8_emptyFor_113 rfl ?_
            refine ce_goto (tgt := 118) dX8_emptyFor_114 (by decide) ?_
            refine ce_iret dX8_emptyFor_118 rfl rfl (by decide) (by decide) ?_
            exact ⟨congrArg (fun z => some (Value.int z)) (by rw [show i = F 0 2 by omega] at hor hs hg; rw [hor.2.2.2, hs, hg]; rfl), rfl, rfl⟩
        · refine ce_aload_n dX8_emptyFor_17 rfl ?_
          refine ce_iload dX8_emptyFor_18 rfl ?_
          refine ce_cSp dX8_emptyFor_20 hX8_binAt kRX8_58 (m_X8_binAt (i)) rfl rfl (by decide) (Nat.le_of_ble_eq_true rfl) ?_
          refine ce_iconst (v := nI (2)) dX8_emptyFor_23 (by decide) ?_
          refine ce_iadd (z := nI (57 + 3 * i + 2)) dX8_emptyFor_24 (nI_add _ _) ?_
          refine ce_ialdv dX8_emptyFor_25 (hA).1 rfl (hA).2 (by omega) (by decide) ((hr).b2 (by omega)) ?_
          refine ce_if_neN (tgt := 39) dX8_emptyFor_26 (by decide) rfl (by omega) (fun c_26 => ?_) (fun c_26 => ?_)
          · refine ce_iconst (v := nI (0)) dX8_emptyFor_39 (by decide) ?_
            refine ce_istore dX8_emptyFor_40 (Nat.le_of_ble_eq_true rfl) rfl ?_
            refine ce_iload dX8_emptyFor_42 rfl ?_
            refine ce_iload_n dX8_emptyFor_44 rfl ?_
            refine ce_icmp_ltN (tgt := 70) dX8_emptyFor_45 (by decide) rfl rfl (by omega) (by omega) (fun c_45 => ?_) (fun c_45 => ?_)
            · refine ce_iload_n dX8_emptyFor_70 rfl ?_
              refine ce_istore_n dX8_emptyFor_71 (Nat.le_of_ble_eq_true rfl) rfl ?_
              refine ce_iload dX8_emptyFor_72 rfl ?_
              refine ce_if_leN (tgt := 99) dX8_emptyFor_74 (by decide) rfl (by omega) (fun c_74 => ?_) (fun c_74 => ?_)
              · refine ce_iload_n dX8_emptyFor_99 rfl ?_
                refine ce_istore_n dX8_emptyFor_100 (Nat.le_of_ble_eq_true rfl) rfl ?_
                refine ce_iinc (v := nI (i + 1)) dX8_emptyFor_101 rfl (ce_inc1 _) (Nat.le_of_ble_eq_true rfl) rfl ?_
                refine ce_goto (tgt := 9) dX8_emptyFor_104 (by decide) ?_
                refine ce_drop (L' := [some (.ref (r)), some (.int (nI (q))), some (.int ((-99999))), some (.int (nI (v))), some (.int (nI (i + 1))), none]) (ce_le_s rfl (ce_le_s rfl (ce_le_s rfl (ce_le_s rfl (ce_le_s rfl (ce_le_n ce_le_e)))))) ?_
                have e9 : kv_es F q (i + 1) = none := by
                  unfold kv_es
                  rw [hs]
                  dsimp only
                  (repeat' split) <;> first | rfl | (exfalso; omega)
                have e8 : kv_eg F (i + 1) = some (v) := by
                  unfold kv_eg
                  rw [hg]
                  dsimp only
                  (repeat' split) <;> first | rfl | (exfalso; omega)
                have e7 := ih (i + 1) (by omega) (by omega)
                rw [e9, e8] at e7
                exact e7
              · omega
            · refine ce_iload_n dX8_emptyFor_48 rfl ?_
              refine ce_ldc dX8_emptyFor_49 kRX8_65 ?_
              refine ce_icmp_eqI (p := (-99999)) (q := (-99999)) (tgt := 65) dX8_emptyFor_51 (by decide) (by decide) (by decide) (fun c_51 => ?_) (fun c_51 => ?_)
              · refine ce_iload dX8_emptyFor_65 rfl ?_
                refine ce_goto (tgt := 71) dX8_emptyFor_67 (by decide) ?_
                refine ce_istore_n dX8_emptyFor_71 (Nat.le_of_ble_eq_true rfl) rfl ?_
                refine ce_iload dX8_emptyFor_72 rfl ?_
                refine ce_if_leN (tgt := 99) dX8_emptyFor_74 (by decide) rfl (by omega) (fun c_74 => ?_) (fun c_74 => ?_)
                · refine ce_iload_n dX8_emptyFor_99 rfl ?_
                  refine ce_istore_n dX8_emptyFor_100 (Nat.le_of_ble_eq_true rfl) rfl ?_
                  refine ce_iinc (v := nI (i + 1)) dX8_emptyFor_101 rfl (ce_inc1 _) (Nat.le_of_ble_eq_true rfl) rfl ?_
                  refine ce_goto (tgt := 9) dX8_emptyFor_104 (by decide) ?_
                  refine ce_drop (L' := [some (.ref (r)), some (.int (nI (q))), some (.int (nI (i))), some (.int (nI (v))), some (.int (nI (i + 1))), none]) (ce_le_s rfl (ce_le_s rfl (ce_le_s rfl (ce_le_s rfl (ce_le_s rfl (ce_le_n ce_le_e)))))) ?_
                  have e9 : kv_es F q (i + 1) = some (i) := by
                    unfold kv_es
                    rw [hs]
                    dsimp only
                    (repeat' split) <;> first | rfl | (exfalso; omega)
                  have e8 : kv_eg F (i + 1) = some (v) := by
                    unfold kv_eg
                    rw [hg]
                    dsimp only
                    (repeat' split) <;> first | rfl | (exfalso; omega)
                  have e7 := ih (i + 1) (by omega) (by omega)
                  rw [e9, e8] at e7
                  exact e7
                · omega
              · omega
          · refine ce_aload_n dX8_emptyFor_29 rfl ?_
            refine ce_iload dX8_emptyFor_30 rfl ?_
            refine ce_cSp dX8_emptyFor_32 hX8_binAt kRX8_58 (m_X8_binAt (i)) rfl rfl (by decide) (Nat.le_of_ble_eq_true rfl) ?_
            refine ce_ialdv dX8_emptyFor_35 (hA).1 rfl (hA).2 (by omega) (by decide) ((hr).b0 (by omega)) ?_
            refine ce_goto (tgt := 40) dX8_emptyFor_36 (by decide) ?_
            refine ce_istore dX8_emptyFor_40 (Nat.le_of_ble_eq_true rfl) rfl ?_
            refine ce_iload dX8_emptyFor_42 rfl ?_
            refine ce_iload_n dX8_emptyFor_44 rfl ?_
            refine ce_icmp_ltN (tgt := 70) dX8_emptyFor_45 (by decide) rfl rfl (by omega) (by omega) (fun c_45 => ?_) (fun c_45 => ?_)
            · refine ce_iload_n dX8_emptyFor_70 rfl ?_
              refine ce_istore_n dX8_emptyFor_71 (Nat.le_of_ble_eq_true rfl) rfl ?_
              refine ce_iload dX8_emptyFor_72 rfl ?_
              refine ce_if_leN (tgt := 99) dX8_emptyFor_74 (by decide) rfl (by omega) (fun c_74 => ?_) (fun c_74 => ?_)
              · refine ce_iload_n dX8_emptyFor_99 rfl ?_
                refine ce_istore_n dX8_emptyFor_100 (Nat.le_of_ble_eq_true rfl) rfl ?_
                refine ce_iinc (v := nI (i + 1)) dX8_emptyFor_101 rfl (ce_inc1 _) (Nat.le_of_ble_eq_true rfl) rfl ?_
                refine ce_goto (tgt := 9) dX8_emptyFor_104 (by decide) ?_
                refine ce_drop (L' := [some (.ref (r)), some (.int (nI (q))), some (.int ((-99999))), some (.int (nI (v))), some (.int (nI (i + 1))), none]) (ce_le_s rfl (ce_le_s rfl (ce_le_s rfl (ce_le_s rfl (ce_le_s rfl (ce_le_n ce_le_e)))))) ?_
                have e9 : kv_es F q (i + 1) = none := by
                  unfold kv_es
                  rw [hs]
                  dsimp only
                  (repeat' split) <;> first | rfl | (exfalso; omega)
                have e8 : kv_eg F (i + 1) = some (v) := by
                  unfold kv_eg
                  rw [hg]
                  dsimp only
                  (repeat' split) <;> first | rfl | (exfalso; omega)
                have e7 := ih (i + 1) (by omega) (by omega)
                rw [e9, e8] at e7
                exact e7
              · refine ce_iload_n dX8_emptyFor_77 rfl ?_
                refine ce_ldc dX8_emptyFor_78 kRX8_65 ?_
                refine ce_icmp_eqI (p := ((v : Nat) : Int)) (q := (-99999)) (tgt := 94) dX8_emptyFor_80 (by decide) (nI_toInt (by omega)) (by decide) (fun c_80 => ?_) (fun c_80 => ?_)
                · omega
                · refine ce_iload dX8_emptyFor_83 rfl ?_
                  refine ce_aload_n dX8_emptyFor_85 rfl ?_
                  refine ce_iload_n dX8_emptyFor_86 rfl ?_
                  refine ce_cSp dX8_emptyFor_87 hX8_binAt kRX8_58 (m_X8_binAt (v)) rfl rfl (by decide) (Nat.le_of_ble_eq_true rfl) ?_
                  refine ce_ialdv dX8_emptyFor_90 (hA).1 rfl (hA).2 (by omega) (by decide) ((hr).b0 (by omega)) ?_
                  refine ce_icmp_leN (tgt := 99) dX8_emptyFor_91 (by decide) rfl rfl (by omega) (by omega) (fun c_91 => ?_) (fun c_91 => ?_)
                  · refine ce_iload_n dX8_emptyFor_99 rfl ?_
                    refine ce_istore_n dX8_emptyFor_100 (Nat.le_of_ble_eq_true rfl) rfl ?_
                    refine ce_iinc (v := nI (i + 1)) dX8_emptyFor_101 rfl (ce_inc1 _) (Nat.le_of_ble_eq_true rfl) rfl ?_
                    refine ce_goto (tgt := 9) dX8_emptyFor_104 (by decide) ?_
                    refine ce_drop (L' := [some (.ref (r)), some (.int (nI (q))), some (.int ((-99999))), some (.int (nI (v))), some (.int (nI (i + 1))), none]) (ce_le_s rfl (ce_le_s rfl (ce_le_s rfl (ce_le_s rfl (ce_le_s rfl (ce_le_n ce_le_e)))))) ?_
                    have e9 : kv_es F q (i + 1) = none := by
                      unfold kv_es
                      rw [hs]
                      dsimp only
                      (repeat' split) <;> first | rfl | (exfalso; omega)
                    have e8 : kv_eg F (i + 1) = some (v) := by
                      unfold kv_eg
                      rw [hg]
                      dsimp only
                      (repeat' split) <;> first | rfl | (exfalso; omega)
                    have e7 := ih (i + 1) (by omega) (by omega)
                    rw [e9, e8] at e7
                    exact e7
                  · refine ce_iload dX8_emptyFor_94 rfl ?_
                    refine ce_goto (tgt := 100) dX8_emptyFor_96 (by decide) ?_
                    refine ce_istore_n dX8_emptyFor_100 (Nat.le_of_ble_eq_true rfl) rfl ?_
                    refine ce_iinc (v := nI (i + 1)) dX8_emptyFor_101 rfl (ce_inc1 _) (Nat.le_of_ble_eq_true rfl) rfl ?_
                    refine ce_goto (tgt := 9) dX8_emptyFor_104 (by decide) ?_
                    refine ce_drop (L' := [some (.ref (r)), some (.int (nI (q))), some (.int ((-99999))), some (.int (nI (i))), some (.int (nI (i + 1))), none]) (ce_le_s rfl (ce_le_s rfl (ce_le_s rfl (ce_le_s rfl (ce_le_s rfl (ce_le_n ce_le_e)))))) ?_
                    have e9 : kv_es F q (i + 1) = none := by
                      unfold kv_es
                      rw [hs]
                      dsimp only
                      (repeat' split) <;> first | rfl | (exfalso; omega)
                    have e8 : kv_eg F (i + 1) = some (i) := by
                      unfold kv_eg
                      rw [hg]
                      dsimp only
                      (repeat' split) <;> first | rfl | (exfalso; omega)
                    have e7 := ih (i + 1) (by omega) (by omega)
                    rw [e9, e8] at e7
                    exact e7
            · refine ce_iload_n dX8_emptyFor_48 rfl ?_
              refine ce_ldc dX8_emptyFor_49 kRX8_65 ?_
              refine ce_icmp_eqI (p := (-99999)) (q := (-99999)) (tgt := 65) dX8_emptyFor_51 (by decide) (by decide) (by decide) (fun c_51 => ?_) (fun c_51 => ?_)
              · refine ce_iload dX8_emptyFor_65 rfl ?_
                refine ce_goto (tgt := 71) dX8_emptyFor_67 (by decide) ?_
                refine ce_istore_n dX8_emptyFor_71 (Nat.le_of_ble_eq_true rfl) rfl ?_
                refine ce_iload dX8_emptyFor_72 rfl ?_
                refine ce_if_leN (tgt := 99) dX8_emptyFor_74 (by decide) rfl (by omega) (fun c_74 => ?_) (fun c_74 => ?_)
                · refine ce_iload_n dX8_emptyFor_99 rfl ?_
                  refine ce_istore_n dX8_emptyFor_100 (Nat.le_of_ble_eq_true rfl) rfl ?_
                  refine ce_iinc (v := nI (i + 1)) dX8_emptyFor_101 rfl (ce_inc1 _) (Nat.le_of_ble_eq_true rfl) rfl ?_
                  refine ce_goto (tgt := 9) dX8_emptyFor_104 (by decide) ?_
                  refine ce_drop (L' := [some (.ref (r)), some (.int (nI (q))), some (.int (nI (i))), some (.int (nI (v))), some (.int (nI (i + 1))), none]) (ce_le_s rfl (ce_le_s rfl (ce_le_s rfl (ce_le_s rfl (ce_le_s rfl (ce_le_n ce_le_e)))))) ?_
                  have e9 : kv_es F q (i + 1) = some (i) := by
                    unfold kv_es
                    rw [hs]
                    dsimp only
                    (repeat' split) <;> first | rfl | (exfalso; omega)
                  have e8 : kv_eg F (i + 1) = some (v) := by
                    unfold kv_eg
                    rw [hg]
                    dsimp only
                    (repeat' split) <;> first | rfl | (exfalso; omega)
                  have e7 := ih (i + 1) (by omega) (by omega)
                  rw [e9, e8] at e7
                  exact e7
                · refine ce_iload_n dX8_emptyFor_77 rfl ?_
                  refine ce_ldc dX8_emptyFor_78 kRX8_65 ?_
                  refine ce_icmp_eqI (p := ((v : Nat) : Int)) (q := (-99999)) (tgt := 94) dX8_emptyFor_80 (by decide) (nI_toInt (by omega)) (by decide) (fun c_80 => ?_) (fun c_80 => ?_)
                  · omega
                  · refine ce_iload dX8_emptyFor_83 rfl ?_
                    refine ce_aload_n dX8_emptyFor_85 rfl ?_
                    refine ce_iload_n dX8_emptyFor_86 rfl ?_
                    refine ce_cSp dX8_emptyFor_87 hX8_binAt kRX8_58 (m_X8_binAt (v)) rfl rfl (by decide) (Nat.le_of_ble_eq_true rfl) ?_
                    refine ce_ialdv dX8_emptyFor_90 (hA).1 rfl (hA).2 (by omega) (by decide) ((hr).b0 (by omega)) ?_
                    refine ce_icmp_leN (tgt := 99) dX8_emptyFor_91 (by decide) rfl rfl (by omega) (by omega) (fun c_91 => ?_) (fun c_91 => ?_)
                    · refine ce_iload_n dX8_emptyFor_99 rfl ?_
                      refine ce_istore_n dX8_emptyFor_100 (Nat.le_of_ble_eq_true rfl) rfl ?_
                      refine ce_iinc (v := nI (i + 1)) dX8_emptyFor_101 rfl (ce_inc1 _) (Nat.le_of_ble_eq_true rfl) rfl ?_
                      refine ce_goto (tgt := 9) dX8_emptyFor_104 (by decide) ?_
                      refine ce_drop (L' := [some (.ref (r)), some (.int (nI (q))), some (.int (nI (i))), some (.int (nI (v))), some (.int (nI (i + 1))), none]) (ce_le_s rfl (ce_le_s rfl (ce_le_s rfl (ce_le_s rfl (ce_le_s rfl (ce_le_n ce_le_e)))))) ?_
                      have e9 : kv_es F q (i + 1) = some (i) := by
                        unfold kv_es
                        rw [hs]
                        dsimp only
                        (repeat' split) <;> first | rfl | (exfalso; omega)
                      have e8 : kv_eg F (i + 1) = some (v) := by
                        unfold kv_eg
                        rw [hg]
                        dsimp only
                        (repeat' split) <;> first | rfl | (exfalso; omega)
                      have e7 := ih (i + 1) (by omega) (by omega)
                      rw [e9, e8] at e7
                      exact e7
                    · refine ce_iload dX8_emptyFor_94 rfl ?_
                      refine ce_goto (tgt := 100) dX8_emptyFor_96 (by decide) ?_
                      refine ce_istore_n dX8_emptyFor_100 (Nat.le_of_ble_eq_true rfl) rfl ?_
                      refine ce_iinc (v := nI (i + 1)) dX8_emptyFor_101 rfl (ce_inc1 _) (Nat.le_of_ble_eq_true rfl) rfl ?_
                      refine ce_goto (tgt := 9) dX8_emptyFor_104 (by decide) ?_
                      refine ce_drop (L' := [some (.ref (r)), some (.int (nI (q))), some (.int (nI (i))), some (.int (nI (i))), some (.int (nI (i + 1))), none]) (ce_le_s rfl (ce_le_s rfl (ce_le_s rfl (ce_le_s rfl (ce_le_s rfl (ce_le_n ce_le_e)))))) ?_
                      have e9 : kv_es F q (i + 1) = some (i) := by
                        unfold kv_es
                        rw [hs]
                        dsimp only
                        (repeat' split) <;> first | rfl | (exfalso; omega)
                      have e8 : kv_eg F (i + 1) = some (i) := by
                        unfold kv_eg
                        rw [hg]
                        dsimp only
                        (repeat' split) <;> first | rfl | (exfalso; omega)
                      have e7 := ih (i + 1) (by omega) (by omega)
                      rw [e9, e8] at e7
                      exact e7
              · omega
    | some u =>
      have hu := hor.1 u hs
      have hu12 := hk.2.1 u
      cases hg : kv_eg F i with
      | none =>
        show ce_WP (ce_r 2) mX8_emptyFor 0 0 9 [some (.ref (r)), some (.int (nI (q))), some (.int (nI (u))), some (.int ((-99999))), some (.int (nI (i))), none] [] σ g (ce_pv (ce_o (kv_eb F q (F 0 2))) σ g) ce_no
        refine ce_iload dX8_emptyFor_9 rfl ?_
        refine ce_aload_n dX8_emptyFor_11 rfl ?_
        refine ce_iconst (v := nI (2)) dX8_emptyFor_12 (by decide) ?_
        refine ce_ialdv dX8_emptyFor_13 (hA).1 rfl (hA).2 (by omega) (by decide) ((hr).c2) ?_
        refine ce_icmp_geN (tgt := 107) dX8_emptyFor_14 (by decide) rfl rfl (by omega) (by omega) (fun c_14 => ?_) (fun c_14 => ?_)
        · refine ce_iload_n dX8_emptyFor_107 rfl ?_
          refine ce_ldc dX8_emptyFor_108 kRX8_65 ?_
          refine ce_icmp_neI (p := ((u : Nat) : Int)) (q := (-99999)) (tgt := 117) dX8_emptyFor_110 (by decide) (nI_toInt (by omega)) (by decide) (fun c_110 => ?_) (fun c_110 => ?_)
          · refine ce_iload_n dX8_emptyFor_117 rfl ?_
            refine ce_iret dX8_emptyFor_118 rfl rfl (by decide) (by decide) ?_
            exact ⟨congrArg (fun z => some (Value.int z)) (by rw [show i = F 0 2 by omega] at hor hs hg; rw [hor.2.2.2, hs, hg]; rfl), rfl, rfl⟩
          · omega
        · refine ce_aload_n dX8_emptyFor_17 rfl ?_
          refine ce_iload dX8_emptyFor_18 rfl ?_
          refine ce_cSp dX8_emptyFor_20 hX8_binAt kRX8_58 (m_X8_binAt (i)) rfl rfl (by decide) (Nat.le_of_ble_eq_true rfl) ?_
          refine ce_iconst (v := nI (2)) dX8_emptyFor_23 (by decide) ?_
          refine ce_iadd (z := nI (57 + 3 * i + 2)) dX8_emptyFor_24 (nI_add _ _) ?_
          refine ce_ialdv dX8_emptyFor_25 (hA).1 rfl (hA).2 (by omega) (by decide) ((hr).b2 (by omega)) ?_
          refine ce_if_neN (tgt := 39) dX8_emptyFor_26 (by decide) rfl (by omega) (fun c_26 => ?_) (fun c_26 => ?_)
          · refine ce_iconst (v := nI (0)) dX8_emptyFor_39 (by decide) ?_
            refine ce_istore dX8_emptyFor_40 (Nat.le_of_ble_eq_true rfl) rfl ?_
            refine ce_iload dX8_emptyFor_42 rfl ?_
            refine ce_iload_n dX8_emptyFor_44 rfl ?_
            refine ce_icmp_ltN (tgt := 70) dX8_emptyFor_45 (by decide) rfl rfl (by omega) (by omega) (fun c_45 => ?_) (fun c_45 => ?_)
            · refine ce_iload_n dX8_emptyFor_70 rfl ?_
              refine ce_istore_n dX8_emptyFor_71 (Nat.le_of_ble_eq_true rfl) rfl ?_
              refine ce_iload dX8_emptyFor_72 rfl ?_
              refine ce_if_leN (tgt := 99) dX8_emptyFor_74 (by decide) rfl (by omega) (fun c_74 => ?_) (fun c_74 => ?_)
              · refine ce_iload_n dX8_emptyFor_99 rfl ?_
                refine ce_istore_n dX8_emptyFor_100 (Nat.le_of_ble_eq_true rfl) rfl ?_
                refine ce_iinc (v := nI (i + 1)) dX8_emptyFor_101 rfl (ce_inc1 _) (Nat.le_of_ble_eq_true rfl) rfl ?_
                refine ce_goto (tgt := 9) dX8_emptyFor_104 (by decide) ?_
                refine ce_drop (L' := [some (.ref (r)), some (.int (nI (q))), some (.int (nI (u))), some (.int ((-99999))), some (.int (nI (i + 1))), none]) (ce_le_s rfl (ce_le_s rfl (ce_le_s rfl (ce_le_s rfl (ce_le_s rfl (ce_le_n ce_le_e)))))) ?_
                have e9 : kv_es F q (i + 1) = some (u) := by
                  unfold kv_es
                  rw [hs]
                  dsimp only
                  (repeat' split) <;> first | rfl | (exfalso; omega)
                have e8 : kv_eg F (i + 1) = none := by
                  unfold kv_eg
                  rw [hg]
                  dsimp only
                  (repeat' split) <;> first | rfl | (exfalso; omega)
                have e7 := ih (i + 1) (by omega) (by omega)
                rw [e9, e8] at e7
                exact e7
              · omega
            · refine ce_iload_n dX8_emptyFor_48 rfl ?_
              refine ce_ldc dX8_emptyFor_49 kRX8_65 ?_
              refine ce_icmp_eqI (p := ((u : Nat) : Int)) (q := (-99999)) (tgt := 65) dX8_emptyFor_51 (by decide) (nI_toInt (by omega)) (by decide) (fun c_51 => ?_) (fun c_51 => ?_)
              · omega
              · refine ce_iload dX8_emptyFor_54 rfl ?_
                refine ce_aload_n dX8_emptyFor_56 rfl ?_
                refine ce_iload_n dX8_emptyFor_57 rfl ?_
                refine ce_cSp dX8_emptyFor_58 hX8_binAt kRX8_58 (m_X8_binAt (u)) rfl rfl (by decide) (Nat.le_of_ble_eq_true rfl) ?_
                refine ce_ialdv dX8_emptyFor_61 (hA).1 rfl (hA).2 (by omega) (by decide) ((hr).b0 (by omega)) ?_
                refine ce_icmp_geN (tgt := 70) dX8_emptyFor_62 (by decide) rfl rfl (by omega) (by omega) (fun c_62 => ?_) (fun c_62 => ?_)
                · refine ce_iload_n dX8_emptyFor_70 rfl ?_
                  refine ce_istore_n dX8_emptyFor_71 (Nat.le_of_ble_eq_true rfl) rfl ?_
                  refine ce_iload dX8_emptyFor_72 rfl ?_
                  refine ce_if_leN (tgt := 99) dX8_emptyFor_74 (by decide) rfl (by omega) (fun c_74 => ?_) (fun c_74 => ?_)
                  · refine ce_iload_n dX8_emptyFor_99 rfl ?_
                    refine ce_istore_n dX8_emptyFor_100 (Nat.le_of_ble_eq_true rfl) rfl ?_
                    refine ce_iinc (v := nI (i + 1)) dX8_emptyFor_101 rfl (ce_inc1 _) (Nat.le_of_ble_eq_true rfl) rfl ?_
                    refine ce_goto (tgt := 9) dX8_emptyFor_104 (by decide) ?_
                    refine ce_drop (L' := [some (.ref (r)), some (.int (nI (q))), some (.int (nI (u))), some (.int ((-99999))), some (.int (nI (i + 1))), none]) (ce_le_s rfl (ce_le_s rfl (ce_le_s rfl (ce_le_s rfl (ce_le_s rfl (ce_le_n ce_le_e)))))) ?_
                    have e9 : kv_es F q (i + 1) = some (u) := by
                      unfold kv_es
                      rw [hs]
                      dsimp only
                      (repeat' split) <;> first | rfl | (exfalso; omega)
                    have e8 : kv_eg F (i + 1) = none := by
                      unfold kv_eg
                      rw [hg]
                      dsimp only
                      (repeat' split) <;> first | rfl | (exfalso; omega)
                    have e7 := ih (i + 1) (by omega) (by omega)
                    rw [e9, e8] at e7
                    exact e7
                  · omega
                · refine ce_iload dX8_emptyFor_65 rfl ?_
                  refine ce_goto (tgt := 71) dX8_emptyFor_67 (by decide) ?_
                  refine ce_istore_n dX8_emptyFor_71 (Nat.le_of_ble_eq_true rfl) rfl ?_
                  refine ce_iload dX8_emptyFor_72 rfl ?_
                  refine ce_if_leN (tgt := 99) dX8_emptyFor_74 (by decide) rfl (by omega) (fun c_74 => ?_) (fun c_74 => ?_)
                  · refine ce_iload_n dX8_emptyFor_99 rfl ?_
                    refine ce_istore_n dX8_emptyFor_100 (Nat.le_of_ble_eq_true rfl) rfl ?_
                    refine ce_iinc (v := nI (i + 1)) dX8_emptyFor_101 rfl (ce_inc1 _) (Nat.le_of_ble_eq_true rfl) rfl ?_
                    refine ce_goto (tgt := 9) dX8_emptyFor_104 (by decide) ?_
                    refine ce_drop (L' := [some (.ref (r)), some (.int (nI (q))), some (.int (nI (i))), some (.int ((-99999))), some (.int (nI (i + 1))), none]) (ce_le_s rfl (ce_le_s rfl (ce_le_s rfl (ce_le_s rfl (ce_le_s rfl (ce_le_n ce_le_e)))))) ?_
                    have e9 : kv_es F q (i + 1) = some (i) := by
                      unfold kv_es
                      rw [hs]
                      dsimp only
                      (repeat' split) <;> first | rfl | (exfalso; omega)
                    have e8 : kv_eg F (i + 1) = none := by
                      unfold kv_eg
                      rw [hg]
                      dsimp only
                      (repeat' split) <;> first | rfl | (exfalso; omega)
                    have e7 := ih (i + 1) (by omega) (by omega)
                    rw [e9, e8] at e7
                    exact e7
                  · omega
          · refine ce_aload_n dX8_emptyFor_29 rfl ?_
            refine ce_iload dX8_emptyFor_30 rfl ?_
            refine ce_cSp dX8_emptyFor_32 hX8_binAt kRX8_58 (m_X8_binAt (i)) rfl rfl (by decide) (Nat.le_of_ble_eq_true rfl) ?_
            refine ce_ialdv dX8_emptyFor_35 (hA).1 rfl (hA).2 (by omega) (by decide) ((hr).b0 (by omega)) ?_
            refine ce_goto (tgt := 40) dX8_emptyFor_36 (by decide) ?_
            refine ce_istore dX8_emptyFor_40 (Nat.le_of_ble_eq_true rfl) rfl ?_
            refine ce_iload dX8_emptyFor_42 rfl ?_
            refine ce_iload_n dX8_emptyFor_44 rfl ?_
            refine ce_icmp_ltN (tgt := 70) dX8_emptyFor_45 (by decide) rfl rfl (by omega) (by omega) (fun c_45 => ?_) (fun c_45 => ?_)
            · refine ce_iload_n dX8_emptyFor_70 rfl ?_
              refine ce_istore_n dX8_emptyFor_71 (Nat.le_of_ble_eq_true rfl) rfl ?_
              refine ce_iload dX8_emptyFor_72 rfl ?_
              refine ce_if_leN (tgt := 99) dX8_emptyFor_74 (by decide) rfl (by omega) (fun c_74 => ?_) (fun c_74 => ?_)
              · refine ce_iload_n dX8_emptyFor_99 rfl ?_
                refine ce_istore_n dX8_emptyFor_100 (Nat.le_of_ble_eq_true rfl) rfl ?_
                refine ce_iinc (v := nI (i + 1)) dX8_emptyFor_101 rfl (ce_inc1 _) (Nat.le_of_ble_eq_true rfl) rfl ?_
                refine ce_goto (tgt := 9) dX8_emptyFor_104 (by decide) ?_
                refine ce_drop (L' := [some (.ref (r)), some (.int (nI (q))), some (.int (nI (u))), some (.int ((-99999))), some (.int (nI (i + 1))), none]) (ce_le_s rfl (ce_le_s rfl (ce_le_s rfl (ce_le_s rfl (ce_le_s rfl (ce_le_n ce_le_e)))))) ?_
                have e9 : kv_es F q (i + 1) = some (u) := by
                  unfold kv_es
                  rw [hs]
                  dsimp only
                  (repeat' split) <;> first | rfl | (exfalso; omega)
                have e8 : kv_eg F (i + 1) = none := by
                  unfold kv_eg
                  rw [hg]
                  dsimp only
                  (repeat' split) <;> first | rfl | (exfalso; omega)
                have e7 := ih (i + 1) (by omega) (by omega)
                rw [e9, e8] at e7
                exact e7
              · refine ce_iload_n dX8_emptyFor_77 rfl ?_
                refine ce_ldc dX8_emptyFor_78 kRX8_65 ?_
                refine ce_icmp_eqI (p := (-99999)) (q := (-99999)) (tgt := 94) dX8_emptyFor_80 (by decide) (by decide) (by decide) (fun c_80 => ?_) (fun c_80 => ?_)
                · refine ce_iload dX8_emptyFor_94 rfl ?_
                  refine ce_goto (tgt := 100) dX8_emptyFor_96 (by decide) ?_
                  refine ce_istore_n dX8_emptyFor_100 (Nat.le_of_ble_eq_true rfl) rfl ?_
                  refine ce_iinc (v := nI (i + 1)) dX8_emptyFor_101 rfl (ce_inc1 _) (Nat.le_of_ble_eq_true rfl) rfl ?_
                  refine ce_goto (tgt := 9) dX8_emptyFor_104 (by decide) ?_
                  refine ce_drop (L' := [some (.ref (r)), some (.int (nI (q))), some (.int (nI (u))), some (.int (nI (i))), some (.int (nI (i + 1))), none]) (ce_le_s rfl (ce_le_s rfl (ce_le_s rfl (ce_le_s rfl (ce_le_s rfl (ce_le_n ce_le_e)))))) ?_
                  have e9 : kv_es F q (i + 1) = some (u) := by
                    unfold kv_es
                    rw [hs]
                    dsimp only
                    (repeat' split) <;> first | rfl | (exfalso; omega)
                  have e8 : kv_eg F (i + 1) = some (i) := by
                    unfold kv_eg
                    rw [hg]
                    dsimp only
                    (repeat' split) <;> first | rfl | (exfalso; omega)
                  have e7 := ih (i + 1) (by omega) (by omega)
                  rw [e9, e8] at e7
                  exact e7
                · omega
            · refine ce_iload_n dX8_emptyFor_48 rfl ?_
              refine ce_ldc dX8_emptyFor_49 kRX8_65 ?_
              refine ce_icmp_eqI (p := ((u : Nat) : Int)) (q := (-99999)) (tgt := 65) dX8_emptyFor_51 (by decide) (nI_toInt (by omega)) (by decide) (fun c_51 => ?_) (fun c_51 => ?_)
              · omega
              · refine ce_iload dX8_emptyFor_54 rfl ?_
                refine ce_aload_n dX8_emptyFor_56 rfl ?_
                refine ce_iload_n dX8_emptyFor_57 rfl ?_
                refine ce_cSp dX8_emptyFor_58 hX8_binAt kRX8_58 (m_X8_binAt (u)) rfl rfl (by decide) (Nat.le_of_ble_eq_true rfl) ?_
                refine ce_ialdv dX8_emptyFor_61 (hA).1 rfl (hA).2 (by omega) (by decide) ((hr).b0 (by omega)) ?_
                refine ce_icmp_geN (tgt := 70) dX8_emptyFor_62 (by decide) rfl rfl (by omega) (by omega) (fun c_62 => ?_) (fun c_62 => ?_)
                · refine ce_iload_n dX8_emptyFor_70 rfl ?_
                  refine ce_istore_n dX8_emptyFor_71 (Nat.le_of_ble_eq_true rfl) rfl ?_
                  refine ce_iload dX8_emptyFor_72 rfl ?_
                  refine ce_if_leN (tgt := 99) dX8_emptyFor_74 (by decide) rfl (by omega) (fun c_74 => ?_) (fun c_74 => ?_)
                  · refine ce_iload_n dX8_emptyFor_99 rfl ?_
                    refine ce_istore_n dX8_emptyFor_100 (Nat.le_of_ble_eq_true rfl) rfl ?_
                    refine ce_iinc (v := nI (i + 1)) dX8_emptyFor_101 rfl (ce_inc1 _) (Nat.le_of_ble_eq_true rfl) rfl ?_
                    refine ce_goto (tgt := 9) dX8_emptyFor_104 (by decide) ?_
                    refine ce_drop (L' := [some (.ref (r)), some (.int (nI (q))), some (.int (nI (u))), some (.int ((-99999))), some (.int (nI (i + 1))), none]) (ce_le_s rfl (ce_le_s rfl (ce_le_s rfl (ce_le_s rfl (ce_le_s rfl (ce_le_n ce_le_e)))))) ?_
                    have e9 : kv_es F q (i + 1) = some (u) := by
                      unfold kv_es
                      rw [hs]
                      dsimp only
                      (repeat' split) <;> first | rfl | (exfalso; omega)
                    have e8 : kv_eg F (i + 1) = none := by
                      unfold kv_eg
                      rw [hg]
                      dsimp only
                      (repeat' split) <;> first | rfl | (exfalso; omega)
                    have e7 := ih (i + 1) (by omega) (by omega)
                    rw [e9, e8] at e7
                    exact e7
                  · refine ce_iload_n dX8_emptyFor_77 rfl ?_
                    refine ce_ldc dX8_emptyFor_78 kRX8_65 ?_
                    refine ce_icmp_eqI (p := (-99999)) (q := (-99999)) (tgt := 94) dX8_emptyFor_80 (by decide) (by decide) (by decide) (fun c_80 => ?_) (fun c_80 => ?_)
                    · refine ce_iload dX8_emptyFor_94 rfl ?_
                      refine ce_goto (tgt := 100) dX8_emptyFor_96 (by decide) ?_
                      refine ce_istore_n dX8_emptyFor_100 (Nat.le_of_ble_eq_true rfl) rfl ?_
                      refine ce_iinc (v := nI (i + 1)) dX8_emptyFor_101 rfl (ce_inc1 _) (Nat.le_of_ble_eq_true rfl) rfl ?_
                      refine ce_goto (tgt := 9) dX8_emptyFor_104 (by decide) ?_
                      refine ce_drop (L' := [some (.ref (r)), some (.int (nI (q))), some (.int (nI (u))), some (.int (nI (i))), some (.int (nI (i + 1))), none]) (ce_le_s rfl (ce_le_s rfl (ce_le_s rfl (ce_le_s rfl (ce_le_s rfl (ce_le_n ce_le_e)))))) ?_
                      have e9 : kv_es F q (i + 1) = some (u) := by
                        unfold kv_es
                        rw [hs]
                        dsimp only
                        (repeat' split) <;> first | rfl | (exfalso; omega)
                      have e8 : kv_eg F (i + 1) = some (i) := by
                        unfold kv_eg
                        rw [hg]
                        dsimp only
                        (repeat' split) <;> first | rfl | (exfalso; omega)
                      have e7 := ih (i + 1) (by omega) (by omega)
                      rw [e9, e8] at e7
                      exact e7
                    · omega
                · refine ce_iload dX8_emptyFor_65 rfl ?_
                  refine ce_goto (tgt := 71) dX8_emptyFor_67 (by decide) ?_
                  refine ce_istore_n dX8_emptyFor_71 (Nat.le_of_ble_eq_true rfl) rfl ?_
                  refine ce_iload dX8_emptyFor_72 rfl ?_
                  refine ce_if_leN (tgt := 99) dX8_emptyFor_74 (by decide) rfl (by omega) (fun c_74 => ?_) (fun c_74 => ?_)
                  · refine ce_iload_n dX8_emptyFor_99 rfl ?_
                    refine ce_istore_n dX8_emptyFor_100 (Nat.le_of_ble_eq_true rfl) rfl ?_
                    refine ce_iinc (v := nI (i + 1)) dX8_emptyFor_101 rfl (ce_inc1 _) (Nat.le_of_ble_eq_true rfl) rfl ?_
                    refine ce_goto (tgt := 9) dX8_emptyFor_104 (by decide) ?_
                    refine ce_drop (L' := [some (.ref (r)), some (.int (nI (q))), some (.int (nI (i))), some (.int ((-99999))), some (.int (nI (i + 1))), none]) (ce_le_s rfl (ce_le_s rfl (ce_le_s rfl (ce_le_s rfl (ce_le_s rfl (ce_le_n ce_le_e)))))) ?_
                    have e9 : kv_es F q (i + 1) = some (i) := by
                      unfold kv_es
                      rw [hs]
                      dsimp only
                      (repeat' split) <;> first | rfl | (exfalso; omega)
                    have e8 : kv_eg F (i + 1) = none := by
                      unfold kv_eg
                      rw [hg]
                      dsimp only
                      (repeat' split) <;> first | rfl | (exfalso; omega)
                    have e7 := ih (i + 1) (by omega) (by omega)
                    rw [e9, e8] at e7
                    exact e7
                  · refine ce_iload_n dX8_emptyFor_77 rfl ?_
                    refine ce_ldc dX8_emptyFor_78 kRX8_65 ?_
                    refine ce_icmp_eqI (p := (-99999)) (q := (-99999)) (tgt := 94) dX8_emptyFor_80 (by decide) (by decide) (by decide) (fun c_80 => ?_) (fun c_80 => ?_)
                    · refine ce_iload dX8_emptyFor_94 rfl ?_
                      refine ce_goto (tgt := 100) dX8_emptyFor_96 (by decide) ?_
                      refine ce_istore_n dX8_emptyFor_100 (Nat.le_of_ble_eq_true rfl) rfl ?_
                      refine ce_iinc (v := nI (i + 1)) dX8_emptyFor_101 rfl (ce_inc1 _) (Nat.le_of_ble_eq_true rfl) rfl ?_
                      refine ce_goto (tgt := 9) dX8_emptyFor_104 (by decide) ?_
                      refine ce_drop (L' := [some (.ref (r)), some (.int (nI (q))), some (.int (nI (i))), some (.int (nI (i))), some (.int (nI (i + 1))), none]) (ce_le_s rfl (ce_le_s rfl (ce_le_s rfl (ce_le_s rfl (ce_le_s rfl (ce_le_n ce_le_e)))))) ?_
                      have e9 : kv_es F q (i + 1) = some (i) := by
                        unfold kv_es
                        rw [hs]
                        dsimp only
                        (repeat' split) <;> first | rfl | (exfalso; omega)
                      have e8 : kv_eg F (i + 1) = some (i) := by
                        unfold kv_eg
                        rw [hg]
                        dsimp only
                        (repeat' split) <;> first | rfl | (exfalso; omega)
                      have e7 := ih (i + 1) (by omega) (by omega)
                      rw [e9, e8] at e7
                      exact e7
                    · omega
      | some v =>
        have hv := hor.2.2.1 v hg
        have hv12 := hk.2.1 v
        show ce_WP (ce_r 2) mX8_emptyFor 0 0 9 [some (.ref (r)), some (.int (nI (q))), some (.int (nI (u))), some (.int (nI (v))), some (.int (nI (i))), none] [] σ g (ce_pv (ce_o (kv_eb F q (F 0 2))) σ g) ce_no
        refine ce_iload dX8_emptyFor_9 rfl ?_
        refine ce_aload_n dX8_emptyFor_11 rfl ?_
        refine ce_iconst (v := nI (2)) dX8_emptyFor_12 (by decide) ?_
        refine ce_ialdv dX8_emptyFor_13 (hA).1 rfl (hA).2 (by omega) (by decide) ((hr).c2) ?_
        refine ce_icmp_geN (tgt := 107) dX8_emptyFor_14 (by decide) rfl rfl (by omega) (by omega) (fun c_14 => ?_) (fun c_14 => ?_)
        · refine ce_iload_n dX8_emptyFor_107 rfl ?_
          refine ce_ldc dX8_emptyFor_108 kRX8_65 ?_
          refine ce_icmp_neI (p := ((u : Nat) : Int)) (q := (-99999)) (tgt := 117) dX8_emptyFor_110 (by decide) (nI_toInt (by omega)) (by decide) (fun c_110 => ?_) (fun c_110 => ?_)
          · refine ce_iload_n dX8_emptyFor_117 rfl ?_
            refine ce_iret dX8_emptyFor_118 rfl rfl (by decide) (by decide) ?_
            exact ⟨congrArg (fun z => some (Value.int z)) (by rw [show i = F 0 2 by omega] at hor hs hg; rw [hor.2.2.2, hs, hg]; rfl), rfl, rfl⟩
          · omega
        · refine ce_aload_n dX8_emptyFor_17 rfl ?_
          refine ce_iload dX8_emptyFor_18 rfl ?_
          refine ce_cSp dX8_emptyFor_20 hX8_binAt kRX8_58 (m_X8_binAt (i)) rfl rfl (by decide) (Nat.le_of_ble_eq_true rfl) ?_
          refine ce_iconst (v := nI (2)) dX8_emptyFor_23 (by decide) ?_
          refine ce_iadd (z := nI (57 + 3 * i + 2)) dX8_emptyFor_24 (nI_add _ _) ?_
          refine ce_ialdv dX8_emptyFor_25 (hA).1 rfl (hA).2 (by omega) (by decide) ((hr).b2 (by omega)) ?_
          refine ce_if_neN (tgt := 39) dX8_emptyFor_26 (by decide) rfl (by omega) (fun c_26 => ?_) (fun c_26 => ?_)
          · refine ce_iconst (v := nI (0)) dX8_emptyFor_39 (by decide) ?_
            refine ce_istore dX8_emptyFor_40 (Nat.le_of_ble_eq_true rfl) rfl ?_
            refine ce_iload dX8_emptyFor_42 rfl ?_
            refine ce_iload_n dX8_emptyFor_44 rfl ?_
            refine ce_icmp_ltN (tgt := 70) dX8_emptyFor_45 (by decide) rfl rfl (by omega) (by omega) (fun c_45 => ?_) (fun c_45 => ?_)
            · refine ce_iload_n dX8_emptyFor_70 rfl ?_
              refine ce_istore_n dX8_emptyFor_71 (Nat.le_of_ble_eq_true rfl) rfl ?_
              refine ce_iload dX8_emptyFor_72 rfl ?_
              refine ce_if_leN (tgt := 99) dX8_emptyFor_74 (by decide) rfl (by omega) (fun c_74 => ?_) (fun c_74 => ?_)
              · refine ce_iload_n dX8_emptyFor_99 rfl ?_
                refine ce_istore_n dX8_emptyFor_100 (Nat.le_of_ble_eq_true rfl) rfl ?_
                refine ce_iinc (v := nI (i + 1)) dX8_emptyFor_101 rfl (ce_inc1 _) (Nat.le_of_ble_eq_true rfl) rfl ?_
                refine ce_goto (tgt := 9) dX8_emptyFor_104 (by decide) ?_
                refine ce_drop (L' := [some (.ref (r)), some (.int (nI (q))), some (.int (nI (u))), some (.int (nI (v))), some (.int (nI (i + 1))), none]) (ce_le_s rfl (ce_le_s rfl (ce_le_s rfl (ce_le_s rfl (ce_le_s rfl (ce_le_n ce_le_e)))))) ?_
                have e9 : kv_es F q (i + 1) = some (u) := by
                  unfold kv_es
                  rw [hs]
                  dsimp only
                  (repeat' split) <;> first | rfl | (exfalso; omega)
                have e8 : kv_eg F (i + 1) = some (v) := by
                  unfold kv_eg
                  rw [hg]
                  dsimp only
                  (repeat' split) <;> first | rfl | (exfalso; omega)
                have e7 := ih (i + 1) (by omega) (by omega)
                rw [e9, e8] at e7
                exact e7
              · omega
            · refine ce_iload_n dX8_emptyFor_48 rfl ?_
              refine ce_ldc dX8_emptyFor_49 kRX8_65 ?_
              refine ce_icmp_eqI (p := ((u : Nat) : Int)) (q := (-99999)) (tgt := 65) dX8_emptyFor_51 (by decide) (nI_toInt (by omega)) (by decide) (fun c_51 => ?_) (fun c_51 => ?_)
              · omega
              · refine ce_iload dX8_emptyFor_54 rfl ?_
                refine ce_aload_n dX8_emptyFor_56 rfl ?_
                refine ce_iload_n dX8_emptyFor_57 rfl ?_
                refine ce_cSp dX8_emptyFor_58 hX8_binAt kRX8_58 (m_X8_binAt (u)) rfl rfl (by decide) (Nat.le_of_ble_eq_true rfl) ?_
                refine ce_ialdv dX8_emptyFor_61 (hA).1 rfl (hA).2 (by omega) (by decide) ((hr).b0 (by omega)) ?_
                refine ce_icmp_geN (tgt := 70) dX8_emptyFor_62 (by decide) rfl rfl (by omega) (by omega) (fun c_62 => ?_) (fun c_62 => ?_)
                · refine ce_iload_n dX8_emptyFor_70 rfl ?_
                  refine ce_istore_n dX8_emptyFor_71 (Nat.le_of_ble_eq_true rfl) rfl ?_
                  refine ce_iload dX8_emptyFor_72 rfl ?_
                  refine ce_if_leN (tgt := 99) dX8_emptyFor_74 (by decide) rfl (by omega) (fun c_74 => ?_) (fun c_74 => ?_)
                  · refine ce_iload_n dX8_emptyFor_99 rfl ?_
                    refine ce_istore_n dX8_emptyFor_100 (Nat.le_of_ble_eq_true rfl) rfl ?_
                    refine ce_iinc (v := nI (i + 1)) dX8_emptyFor_101 rfl (ce_inc1 _) (Nat.le_of_ble_eq_true rfl) rfl ?_
                    refine ce_goto (tgt := 9) dX8_emptyFor_104 (by decide) ?_
                    refine ce_drop (L' := [some (.ref (r)), some (.int (nI (q))), some (.int (nI (u))), some (.int (nI (v))), some (.int (nI (i + 1))), none]) (ce_le_s rfl (ce_le_s rfl (ce_le_s rfl (ce_le_s rfl (ce_le_s rfl (ce_le_n ce_le_e)))))) ?_
                    have e9 : kv_es F q (i + 1) = some (u) := by
                      unfold kv_es
                      rw [hs]
                      dsimp only
                      (repeat' split) <;> first | rfl | (exfalso; omega)
                    have e8 : kv_eg F (i + 1) = some (v) := by
                      unfold kv_eg
                      rw [hg]
                      dsimp only
                      (repeat' split) <;> first | rfl | (exfalso; omega)
                    have e7 := ih (i + 1) (by omega) (by omega)
                    rw [e9, e8] at e7
                    exact e7
                  · omega
                · refine ce_iload dX8_emptyFor_65 rfl ?_
                  refine ce_goto (tgt := 71) dX8_emptyFor_67 (by decide) ?_
                  refine ce_istore_n dX8_emptyFor_71 (Nat.le_of_ble_eq_true rfl) rfl ?_
                  refine ce_iload dX8_emptyFor_72 rfl ?_
                  refine ce_if_leN (tgt := 99) dX8_emptyFor_74 (by decide) rfl (by omega) (fun c_74 => ?_) (fun c_74 => ?_)
                  · refine ce_iload_n dX8_emptyFor_99 rfl ?_
                    refine ce_istore_n dX8_emptyFor_100 (Nat.le_of_ble_eq_true rfl) rfl ?_
                    refine ce_iinc (v := nI (i + 1)) dX8_emptyFor_101 rfl (ce_inc1 _) (Nat.le_of_ble_eq_true rfl) rfl ?_
                    refine ce_goto (tgt := 9) dX8_emptyFor_104 (by decide) ?_
                    refine ce_drop (L' := [some (.ref (r)), some (.int (nI (q))), some (.int (nI (i))), some (.int (nI (v))), some (.int (nI (i + 1))), none]) (ce_le_s rfl (ce_le_s rfl (ce_le_s rfl (ce_le_s rfl (ce_le_s rfl (ce_le_n ce_le_e)))))) ?_
                    have e9 : kv_es F q (i + 1) = some (i) := by
                      unfold kv_es
                      rw [hs]
                      dsimp only
                      (repeat' split) <;> first | rfl | (exfalso; omega)
                    have e8 : kv_eg F (i + 1) = some (v) := by
                      unfold kv_eg
                      rw [hg]
                      dsimp only
                      (repeat' split) <;> first | rfl | (exfalso; omega)
                    have e7 := ih (i + 1) (by omega) (by omega)
                    rw [e9, e8] at e7
                    exact e7
                  · omega
          · refine ce_aload_n dX8_emptyFor_29 rfl ?_
            refine ce_iload dX8_emptyFor_30 rfl ?_
            refine ce_cSp dX8_emptyFor_32 hX8_binAt kRX8_58 (m_X8_binAt (i)) rfl rfl (by decide) (Nat.le_of_ble_eq_true rfl) ?_
            refine ce_ialdv dX8_emptyFor_35 (hA).1 rfl (hA).2 (by omega) (by decide) ((hr).b0 (by omega)) ?_
            refine ce_goto (tgt := 40) dX8_emptyFor_36 (by decide) ?_
            refine ce_istore dX8_emptyFor_40 (Nat.le_of_ble_eq_true rfl) rfl ?_
            refine ce_iload dX8_emptyFor_42 rfl ?_
            refine ce_iload_n dX8_emptyFor_44 rfl ?_
            refine ce_icmp_ltN (tgt := 70) dX8_emptyFor_45 (by decide) rfl rfl (by omega) (by omega) (fun c_45 => ?_) (fun c_45 => ?_)
            · refine ce_iload_n dX8_emptyFor_70 rfl ?_
              refine ce_istore_n dX8_emptyFor_71 (Nat.le_of_ble_eq_true rfl) rfl ?_
              refine ce_iload dX8_emptyFor_72 rfl ?_
              refine ce_if_leN (tgt := 99) dX8_emptyFor_74 (by decide) rfl (by omega) (fun c_74 => ?_) (fun c_74 => ?_)
              · refine ce_iload_n dX8_emptyFor_99 rfl ?_
                refine ce_istore_n dX8_emptyFor_100 (Nat.le_of_ble_eq_true rfl) rfl ?_
                refine ce_iinc (v := nI (i + 1)) dX8_emptyFor_101 rfl (ce_inc1 _) (Nat.le_of_ble_eq_true rfl) rfl ?_
                refine ce_goto (tgt := 9) dX8_emptyFor_104 (by decide) ?_
                refine ce_drop (L' := [some (.ref (r)), some (.int (nI (q))), some (.int (nI (u))), some (.int (nI (v))), some (.int (nI (i + 1))), none]) (ce_le_s rfl (ce_le_s rfl (ce_le_s rfl (ce_le_s rfl (ce_le_s rfl (ce_le_n ce_le_e)))))) ?_
                have e9 : kv_es F q (i + 1) = some (u) := by
                  unfold kv_es
                  rw [hs]
                  dsimp only
                  (repeat' split) <;> first | rfl | (exfalso; omega)
                have e8 : kv_eg F (i + 1) = some (v) := by
                  unfold kv_eg
                  rw [hg]
                  dsimp only
                  (repeat' split) <;> first | rfl | (exfalso; omega)
                have e7 := ih (i + 1) (by omega) (by omega)
                rw [e9, e8] at e7
                exact e7
              · refine ce_iload_n dX8_emptyFor_77 rfl ?_
                refine ce_ldc dX8_emptyFor_78 kRX8_65 ?_
                refine ce_icmp_eqI (p := ((v : Nat) : Int)) (q := (-99999)) (tgt := 94) dX8_emptyFor_80 (by decide) (nI_toInt (by omega)) (by decide) (fun c_80 => ?_) (fun c_80 => ?_)
                · omega
                · refine ce_iload dX8_emptyFor_83 rfl ?_
                  refine ce_aload_n dX8_emptyFor_85 rfl ?_
                  refine ce_iload_n dX8_emptyFor_86 rfl ?_
                  refine ce_cSp dX8_emptyFor_87 hX8_binAt kRX8_58 (m_X8_binAt (v)) rfl rfl (by decide) (Nat.le_of_ble_eq_true rfl) ?_
                  refine ce_ialdv dX8_emptyFor_90 (hA).1 rfl (hA).2 (by omega) (by decide) ((hr).b0 (by omega)) ?_
                  refine ce_icmp_leN (tgt := 99) dX8_emptyFor_91 (by decide) rfl rfl (by omega) (by omega) (fun c_91 => ?_) (fun c_91 => ?_)
                  · refine ce_iload_n dX8_emptyFor_99 rfl ?_
                    refine ce_istore_n dX8_emptyFor_100 (Nat.le_of_ble_eq_true rfl) rfl ?_
                    refine ce_iinc (v := nI (i + 1)) dX8_emptyFor_101 rfl (ce_inc1 _) (Nat.le_of_ble_eq_true rfl) rfl ?_
                    refine ce_goto (tgt := 9) dX8_emptyFor_104 (by decide) ?_
                    refine ce_drop (L' := [some (.ref (r)), some (.int (nI (q))), some (.int (nI (u))), some (.int (nI (v))), some (.int (nI (i + 1))), none]) (ce_le_s rfl (ce_le_s rfl (ce_le_s rfl (ce_le_s rfl (ce_le_s rfl (ce_le_n ce_le_e)))))) ?_
                    have e9 : kv_es F q (i + 1) = some (u) := by
                      unfold kv_es
                      rw [hs]
                      dsimp only
                      (repeat' split) <;> first | rfl | (exfalso; omega)
                    have e8 : kv_eg F (i + 1) = some (v) := by
                      unfold kv_eg
                      rw [hg]
                      dsimp only
                      (repeat' split) <;> first | rfl | (exfalso; omega)
                    have e7 := ih (i + 1) (by omega) (by omega)
                    rw [e9, e8] at e7
                    exact e7
                  · refine ce_iload dX8_emptyFor_94 rfl ?_
                    refine ce_goto (tgt := 100) dX8_emptyFor_96 (by decide) ?_
                    refine ce_istore_n dX8_emptyFor_100 (Nat.le_of_ble_eq_true rfl) rfl ?_
                    refine ce_iinc (v := nI (i + 1)) dX8_emptyFor_101 rfl (ce_inc1 _) (Nat.le_of_ble_eq_true rfl) rfl ?_
                    refine ce_goto (tgt := 9) dX8_emptyFor_104 (by decide) ?_
                    refine ce_drop (L' := [some (.ref (r)), some (.int (nI (q))), some (.int (nI (u))), some (.int (nI (i))), some (.int (nI (i + 1))), none]) (ce_le_s rfl (ce_le_s rfl (ce_le_s rfl (ce_le_s rfl (ce_le_s rfl (ce_le_n ce_le_e)))))) ?_
                    have e9 : kv_es F q (i + 1) = some (u) := by
                      unfold kv_es
                      rw [hs]
                      dsimp only
                      (repeat' split) <;> first | rfl | (exfalso; omega)
                    have e8 : kv_eg F (i + 1) = some (i) := by
                      unfold kv_eg
                      rw [hg]
                      dsimp only
                      (repeat' split) <;> first | rfl | (exfalso; omega)
                    have e7 := ih (i + 1) (by omega) (by omega)
                    rw [e9, e8] at e7
                    exact e7
            · refine ce_iload_n dX8_emptyFor_48 rfl ?_
              refine ce_ldc dX8_emptyFor_49 kRX8_65 ?_
              refine ce_icmp_eqI (p := ((u : Nat) : Int)) (q := (-99999)) (tgt := 65) dX8_emptyFor_51 (by decide) (nI_toInt (by omega)) (by decide) (fun c_51 => ?_) (fun c_51 => ?_)
              · omega
              · refine ce_iload dX8_emptyFor_54 rfl ?_
                refine ce_aload_n dX8_emptyFor_56 rfl ?_
                refine ce_iload_n dX8_emptyFor_57 rfl ?_
                refine ce_cSp dX8_emptyFor_58 hX8_binAt kRX8_58 (m_X8_binAt (u)) rfl rfl (by decide) (Nat.le_of_ble_eq_true rfl) ?_
                refine ce_ialdv dX8_emptyFor_61 (hA).1 rfl (hA).2 (by omega) (by decide) ((hr).b0 (by omega)) ?_
                refine ce_icmp_geN (tgt := 70) dX8_emptyFor_62 (by decide) rfl rfl (by omega) (by omega) (fun c_62 => ?_) (fun c_62 => ?_)
                · refine ce_iload_n dX8_emptyFor_70 rfl ?_
                  refine ce_istore_n dX8_emptyFor_71 (Nat.le_of_ble_eq_true rfl) rfl ?_
                  refine ce_iload dX8_emptyFor_72 rfl ?_
                  refine ce_if_leN (tgt := 99) dX8_emptyFor_74 (by decide) rfl (by omega) (fun c_74 => ?_) (fun c_74 => ?_)
                  · refine ce_iload_n dX8_emptyFor_99 rfl ?_
                    refine ce_istore_n dX8_emptyFor_100 (Nat.le_of_ble_eq_true rfl) rfl ?_
                    refine ce_iinc (v := nI (i + 1)) dX8_emptyFor_101 rfl (ce_inc1 _) (Nat.le_of_ble_eq_true rfl) rfl ?_
                    refine ce_goto (tgt := 9) dX8_emptyFor_104 (by decide) ?_
                    refine ce_drop (L' := [some (.ref (r)), some (.int (nI (q))), some (.int (nI (u))), some (.int (nI (v))), some (.int (nI (i + 1))), none]) (ce_le_s rfl (ce_le_s rfl (ce_le_s rfl (ce_le_s rfl (ce_le_s rfl (ce_le_n ce_le_e)))))) ?_
                    have e9 : kv_es F q (i + 1) = some (u) := by
                      unfold kv_es
                      rw [hs]
                      dsimp only
                      (repeat' split) <;> first | rfl | (exfalso; omega)
                    have e8 : kv_eg F (i + 1) = some (v) := by
                      unfold kv_eg
                      rw [hg]
                      dsimp only
                      (repeat' split) <;> first | rfl | (exfalso; omega)
                    have e7 := ih (i + 1) (by omega) (by omega)
                    rw [e9, e8] at e7
                    exact e7
                  · refine ce_iload_n dX8_emptyFor_77 rfl ?_
                    refine ce_ldc dX8_emptyFor_78 kRX8_65 ?_
                    refine ce_icmp_eqI (p := ((v : Nat) : Int)) (q := (-99999)) (tgt := 94) dX8_emptyFor_80 (by decide) (nI_toInt (by omega)) (by decide) (fun c_80 => ?_) (fun c_80 => ?_)
                    · omega
                    · refine ce_iload dX8_emptyFor_83 rfl ?_
                      refine ce_aload_n dX8_emptyFor_85 rfl ?_
                      refine ce_iload_n dX8_emptyFor_86 rfl ?_
                      refine ce_cSp dX8_emptyFor_87 hX8_binAt kRX8_58 (m_X8_binAt (v)) rfl rfl (by decide) (Nat.le_of_ble_eq_true rfl) ?_
                      refine ce_ialdv dX8_emptyFor_90 (hA).1 rfl (hA).2 (by omega) (by decide) ((hr).b0 (by omega)) ?_
                      refine ce_icmp_leN (tgt := 99) dX8_emptyFor_91 (by decide) rfl rfl (by omega) (by omega) (fun c_91 => ?_) (fun c_91 => ?_)
                      · refine ce_iload_n dX8_emptyFor_99 rfl ?_
                        refine ce_istore_n dX8_emptyFor_100 (Nat.le_of_ble_eq_true rfl) rfl ?_
                        refine ce_iinc (v := nI (i + 1)) dX8_emptyFor_101 rfl (ce_inc1 _) (Nat.le_of_ble_eq_true rfl) rfl ?_
                        refine ce_goto (tgt := 9) dX8_emptyFor_104 (by decide) ?_
                        refine ce_drop (L' := [some (.ref (r)), some (.int (nI (q))), some (.int (nI (u))), some (.int (nI (v))), some (.int (nI (i + 1))), none]) (ce_le_s rfl (ce_le_s rfl (ce_le_s rfl (ce_le_s rfl (ce_le_s rfl (ce_le_n ce_le_e)))))) ?_
                        have e9 : kv_es F q (i + 1) = some (u) := by
                          unfold kv_es
                          rw [hs]
                          dsimp only
                          (repeat' split) <;> first | rfl | (exfalso; omega)
                        have e8 : kv_eg F (i + 1) = some (v) := by
                          unfold kv_eg
                          rw [hg]
                          dsimp only
                          (repeat' split) <;> first | rfl | (exfalso; omega)
                        have e7 := ih (i + 1) (by omega) (by omega)
                        rw [e9, e8] at e7
                        exact e7
                      · refine ce_iload dX8_emptyFor_94 rfl ?_
                        refine ce_goto (tgt := 100) dX8_emptyFor_96 (by decide) ?_
                        refine ce_istore_n dX8_emptyFor_100 (Nat.le_of_ble_eq_true rfl) rfl ?_
                        refine ce_iinc (v := nI (i + 1)) dX8_emptyFor_101 rfl (ce_inc1 _) (Nat.le_of_ble_eq_true rfl) rfl ?_
                        refine ce_goto (tgt := 9) dX8_emptyFor_104 (by decide) ?_
                        refine ce_drop (L' := [some (.ref (r)), some (.int (nI (q))), some (.int (nI (u))), some (.int (nI (i))), some (.int (nI (i + 1))), none]) (ce_le_s rfl (ce_le_s rfl (ce_le_s rfl (ce_le_s rfl (ce_le_s rfl (ce_le_n ce_le_e)))))) ?_
                        have e9 : kv_es F q (i + 1) = some (u) := by
                          unfold kv_es
                          rw [hs]
                          dsimp only
                          (repeat' split) <;> first | rfl | (exfalso; omega)
                        have e8 : kv_eg F (i + 1) = some (i) := by
                          unfold kv_eg
                          rw [hg]
                          dsimp only
                          (repeat' split) <;> first | rfl | (exfalso; omega)
                        have e7 := ih (i + 1) (by omega) (by omega)
                        rw [e9, e8] at e7
                        exact e7
                · refine ce_iload dX8_emptyFor_65 rfl ?_
                  refine ce_goto (tgt := 71) dX8_emptyFor_67 (by decide) ?_
                  refine ce_istore_n dX8_emptyFor_71 (Nat.le_of_ble_eq_true rfl) rfl ?_
                  refine ce_iload dX8_emptyFor_72 rfl ?_
                  refine ce_if_leN (tgt := 99) dX8_emptyFor_74 (by decide) rfl (by omega) (fun c_74 => ?_) (fun c_74 => ?_)
                  · refine ce_iload_n dX8_emptyFor_99 rfl ?_
                    refine ce_istore_n dX8_emptyFor_100 (Nat.le_of_ble_eq_true rfl) rfl ?_
                    refine ce_iinc (v := nI (i + 1)) dX8_emptyFor_101 rfl (ce_inc1 _) (Nat.le_of_ble_eq_true rfl) rfl ?_
                    refine ce_goto (tgt := 9) dX8_emptyFor_104 (by decide) ?_
                    refine ce_drop (L' := [some (.ref (r)), some (.int (nI (q))), some (.int (nI (i))), some (.int (nI (v))), some (.int (nI (i + 1))), none]) (ce_le_s rfl (ce_le_s rfl (ce_le_s rfl (ce_le_s rfl (ce_le_s rfl (ce_le_n ce_le_e)))))) ?_
                    have e9 : kv_es F q (i + 1) = some (i) := by
                      unfold kv_es
                      rw [hs]
                      dsimp only
                      (repeat' split) <;> first | rfl | (exfalso; omega)
                    have e8 : kv_eg F (i + 1) = some (v) := by
                      unfold kv_eg
                      rw [hg]
                      dsimp only
                      (repeat' split) <;> first | rfl | (exfalso; omega)
                    have e7 := ih (i + 1) (by omega) (by omega)
                    rw [e9, e8] at e7
                    exact e7
                  · refine ce_iload_n dX8_emptyFor_77 rfl ?_
                    refine ce_ldc dX8_emptyFor_78 kRX8_65 ?_
                    refine ce_icmp_eqI (p := ((v : Nat) : Int)) (q := (-99999)) (tgt := 94) dX8_emptyFor_80 (by decide) (nI_toInt (by omega)) (by decide) (fun c_80 => ?_) (fun c_80 => ?_)
                    · omega
                    · refine ce_iload dX8_emptyFor_83 rfl ?_
                      refine ce_aload_n dX8_emptyFor_85 rfl ?_
                      refine ce_iload_n dX8_emptyFor_86 rfl ?_
                      refine ce_cSp dX8_emptyFor_87 hX8_binAt kRX8_58 (m_X8_binAt (v)) rfl rfl (by decide) (Nat.le_of_ble_eq_true rfl) ?_
                      refine ce_ialdv dX8_emptyFor_90 (hA).1 rfl (hA).2 (by omega) (by decide) ((hr).b0 (by omega)) ?_
                      refine ce_icmp_leN (tgt := 99) dX8_emptyFor_91 (by decide) rfl rfl (by omega) (by omega) (fun c_91 => ?_) (fun c_91 => ?_)
                      · refine ce_iload_n dX8_emptyFor_99 rfl ?_
                        refine ce_istore_n dX8_emptyFor_100 (Nat.le_of_ble_eq_true rfl) rfl ?_
                        refine ce_iinc (v := nI (i + 1)) dX8_emptyFor_101 rfl (ce_inc1 _) (Nat.le_of_ble_eq_true rfl) rfl ?_
                        refine ce_goto (tgt := 9) dX8_emptyFor_104 (by decide) ?_
                        refine ce_drop (L' := [some (.ref (r)), some (.int (nI (q))), some (.int (nI (i))), some (.int (nI (v))), some (.int (nI (i + 1))), none]) (ce_le_s rfl (ce_le_s rfl (ce_le_s rfl (ce_le_s rfl (ce_le_s rfl (ce_le_n ce_le_e)))))) ?_
                        have e9 : kv_es F q (i + 1) = some (i) := by
                          unfold kv_es
                          rw [hs]
                          dsimp only
                          (repeat' split) <;> first | rfl | (exfalso; omega)
                        have e8 : kv_eg F (i + 1) = some (v) := by
                          unfold kv_eg
                          rw [hg]
                          dsimp only
                          (repeat' split) <;> first | rfl | (exfalso; omega)
                        have e7 := ih (i + 1) (by omega) (by omega)
                        rw [e9, e8] at e7
                        exact e7
                      · refine ce_iload dX8_emptyFor_94 rfl ?_
                        refine ce_goto (tgt := 100) dX8_emptyFor_96 (by decide) ?_
                        refine ce_istore_n dX8_emptyFor_100 (Nat.le_of_ble_eq_true rfl) rfl ?_
                        refine ce_iinc (v := nI (i + 1)) dX8_emptyFor_101 rfl (ce_inc1 _) (Nat.le_of_ble_eq_true rfl) rfl ?_
                        refine ce_goto (tgt := 9) dX8_emptyFor_104 (by decide) ?_
                        refine ce_drop (L' := [some (.ref (r)), some (.int (nI (q))), some (.int (nI (i))), some (.int (nI (i))), some (.int (nI (i + 1))), none]) (ce_le_s rfl (ce_le_s rfl (ce_le_s rfl (ce_le_s rfl (ce_le_s rfl (ce_le_n ce_le_e)))))) ?_
                        have e9 : kv_es F q (i + 1) = some (i) := by
                          unfold kv_es
                          rw [hs]
                          dsimp only
                          (repeat' split) <;> first | rfl | (exfalso; omega)
                        have e8 : kv_eg F (i + 1) = some (i) := by
                          unfold kv_eg
                          rw [hg]
                          dsimp only
                          (repeat' split) <;> first | rfl | (exfalso; omega)
                        have e7 := ih (i + 1) (by omega) (by omega)
                        rw [e9, e8] at e7
                        exact e7
set_option maxHeartbeats 2000000 in
set_option maxRecDepth 20000 in
theorem m_X8_emptyFor {σ : ce_S} {g : ce_D} (r : Nat) (F : ce_V) (O : Nat → Int32) (hA : ce_LA σ 10 r 189) (hr : cr_row (g r) F O) (q : Nat) (hq : 1 ≤ q ∧ q ≤ 1000) (hk : kv_rk F) : ce_CT (ce_r 2) mX8_emptyFor [.ref (r), .int (nI (q))] σ g (ce_pv (ce_o (kv_eb F q (F 0 2))) σ g) ce_no := by
  refine ce_enter (by decide) rfl (Nat.le_of_ble_eq_true rfl) (L := [some (.ref (r)), some (.int (nI (q))), none, none, none, none]) rfl ?_
  refine ce_ldc dX8_emptyFor_0 kRX8_65 ?_
  refine ce_istore_n dX8_emptyFor_2 (Nat.le_of_ble_eq_true rfl) rfl ?_
  refine ce_ldc dX8_emptyFor_3 kRX8_65 ?_
  refine ce_istore_n dX8_emptyFor_5 (Nat.le_of_ble_eq_true rfl) rfl ?_
  refine ce_iconst (v := nI (0)) dX8_emptyFor_6 (by decide) ?_
  refine ce_istore dX8_emptyFor_7 (Nat.le_of_ble_eq_true rfl) rfl ?_
  exact w_X8_emptyFor r F O hA hr q hq hk (F 0 2 + 1) 0 (by omega) (by omega)
theorem kq_nr8 {F : ce_V} (hk : kv_rk F) (w : Nat) : kv_nr F w ≤ 8 ∧ kv_nr F w ≤ 9 := by
  have := kv_nr_le F w
  have := hk.1
  omega
theorem kq_nt8 {F : ce_V} (hk : kv_rk F) (w : Nat) : kv_nt F w ≤ 8 ∧ kv_nt F w ≤ 9 := by
  have := kv_nt_le F w
  have := hk.1
  omega
/-- a turn of laying, of taking -/
theorem kq_lay1 {F : ce_V} {w left b : Nat} (hk : kv_rk F) (hw : w < 6) (h0 : 0 < left) (h : (kv_fill F w (F 0 2)).or (kv_eb F left (F 0 2)) = some b) : kv_lay w 8 left F = kv_lay w 8 (left - min left (F 11 b - F 12 b)) (kv_put F b w (min left (F 11 b - F 12 b))) := by
  rw [kv_lay_t hk hw (kq_nr8 hk w).1 (kq_nr8 hk w).2]
  exact kv_lay_some h0 h
theorem kq_take1 {F : ce_V} {w left b : Nat} (hk : kv_rk F) (h0 : 0 < left) (h : kv_tf F w (F 0 2) = some b) : kv_take w 8 left F = kv_take w 8 (left - min left (F 12 b)) (kv_rem F b (min left (F 12 b))) := by
  rw [kv_take_t hk (kq_nt8 hk w).1 (kq_nt8 hk w).2]
  exact kv_take_some h0 h
theorem kq_room1 {F : ce_V} {w b n : Nat} (hb : b < F 0 2) (h : F 12 b = 0 ∨ F 13 b = w + 1) (hn : n ≤ F 11 b - F 12 b) : ce_sum (kv_room (kv_put F b w n) w) (kv_put F b w n 0 2) + n = ce_sum (kv_room F w) (F 0 2) := by
  obtain ⟨h1, h2, h3⟩ := kv_room_put (n := n) h
  have := ce_sum_up (f := kv_room F w) (f1 := kv_room (kv_put F b w n) w) hb (fun j _ hj => h1 j hj)
  rw [kv_put_0 (by decide) (by decide)]
  omega
set_option maxHeartbeats 2000000 in
set_option maxRecDepth 20000 in
theorem w_X8_lay {σ : ce_S} {g0 : ce_D} (r : Nat) (O : Nat → Int32) (hA : ce_LA σ 10 r 189) (w : Nat) (hw : w < 6) (n : Int32) : ∀ (n9 left : Nat) (F : ce_V) (g : ce_D), left < n9 → kv_rk F → left ≤ ce_sum (kv_room F w) (F 0 2) → left ≤ 1000 → (∀ x, x ≠ r → g x = g0 x) → cr_row (g r) F O → ce_WP (ce_r 3) mX8_lay 0 0 2 [some (.ref (r)), some (.int (nI (w))), some (.int (n)), some (.int (nI (left))), none, none] [] σ g (ce_uv σ (fun g' => cr_row (g' r) (kv_lay w 8 left F) O ∧ ∀ x, x ≠ r → g' x = g0 x)) ce_no := by
  intro n9
  induction n9 with
  | zero =>
    intros
    omega
  | succ n9 ih =>
    intro left F g hm hk hle hl9 hf hr
    have hB := hk.1
    by_cases h0 : left = 0
    · refine ce_iload_n dX8_lay_2 rfl ?_
      refine ce_if_leN (tgt := 88) dX8_lay_3 (by decide) rfl (by omega) (fun c_3 => ?_) (fun c_3 => ?_)
      · exact ce_vret dX8_lay_88 rfl (by decide) (by decide) ⟨rfl, rfl, by rw [h0, kv_lay_0]; exact hr, hf⟩
      · omega
    · have hne : (kv_fill F w (F 0 2)).or (kv_eb F left (F 0 2)) ≠ none := fun e => by have := kv_ch_none hk e; omega
      obtain ⟨b, hb⟩ := Option.ne_none_iff_exists'.mp hne
      have hc := kv_ch hb
      have h12 := hk.2.1 b
      have h1b := hk.2.2.2.2 b hc.1
      have e1 := kq_lay1 hk hw (by omega) hb
      cases hp : kv_fill F w (F 0 2) with
      | none =>
        have he : ce_o (kv_eb F left (F 0 2)) = nI b := by rw [hp] at hb; rw [show kv_eb F left (F 0 2) = some b from hb]; rfl
        have ho : ce_o (kv_fill F w (F 0 2)) = -99999 := by rw [hp]; rfl
        refine ce_iload_n dX8_lay_2 rfl ?_
        refine ce_if_leN (tgt := 88) dX8_lay_3 (by decide) rfl (by omega) (fun c_3 => ?_) (fun c_3 => ?_)
        · omega
        · refine ce_aload_n dX8_lay_6 rfl ?_
          refine ce_iload_n dX8_lay_7 rfl ?_
          refine ce_cSp dX8_lay_8 hX8_tightest kRX8_74 (ho ▸ m_X8_tightest (r) F O ⟨(hA).1, (hA).2⟩ hr (w) hw hk) rfl rfl (by decide) (Nat.le_of_ble_eq_true rfl) ?_
          refine ce_istore dX8_lay_11 (Nat.le_of_ble_eq_true rfl) rfl ?_
          refine ce_iload dX8_lay_13 rfl ?_
          refine ce_ldc dX8_lay_15 kRX8_65 ?_
          refine ce_icmp_neI (p := (-99999)) (q := (-99999)) (tgt := 28) dX8_lay_17 (by decide) (by decide) (by decide) (fun c_17 => ?_) (fun c_17 => ?_)
          · omega
          · refine ce_aload_n dX8_lay_20 rfl ?_
            refine ce_iload_n dX8_lay_21 rfl ?_
            refine ce_cSp dX8_lay_22 hX8_emptyFor kRX8_77 (he ▸ m_X8_emptyFor (r) F O ⟨(hA).1, (hA).2⟩ hr (left) ⟨by omega, by omega⟩ hk) rfl rfl (by decide) (Nat.le_of_ble_eq_true rfl) ?_
            refine ce_goto (tgt := 30) dX8_lay_25 (by decide) ?_
            refine ce_istore dX8_lay_30 (Nat.le_of_ble_eq_true rfl) rfl ?_
            refine ce_iload_n dX8_lay_32 rfl ?_
            refine ce_aload_n dX8_lay_33 rfl ?_
            refine ce_iload dX8_lay_34 rfl ?_
            refine ce_cSp dX8_lay_36 hX8_roomIn kRX8_70 (m_X8_roomIn (r) F O ⟨(hA).1, (hA).2⟩ hr (b) (by omega) (by first | omega | exact (hk.2.1 _).1)) rfl rfl (by decide) (Nat.le_of_ble_eq_true rfl) ?_
            refine ce_icmp_geN (tgt := 46) dX8_lay_39 (by decide) rfl rfl (by omega) (by omega) (fun c_39 => ?_) (fun c_39 => ?_)
            · refine ce_aload_n dX8_lay_46 rfl ?_
              refine ce_iload dX8_lay_47 rfl ?_
              refine ce_cSp dX8_lay_49 hX8_roomIn kRX8_70 (m_X8_roomIn (r) F O ⟨(hA).1, (hA).2⟩ hr (b) (by omega) (by first | omega | exact (hk.2.1 _).1)) rfl rfl (by decide) (Nat.le_of_ble_eq_true rfl) ?_
              refine ce_istore dX8_lay_52 (Nat.le_of_ble_eq_true rfl) rfl ?_
              refine ce_aload_n dX8_lay_54 rfl ?_
              refine ce_iload dX8_lay_55 rfl ?_
              refine ce_cSp dX8_lay_57 hX8_binAt kRX8_58 (m_X8_binAt (b)) rfl rfl (by decide) (Nat.le_of_ble_eq_true rfl) ?_
              refine ce_iconst (v := nI (1)) dX8_lay_60 (by decide) ?_
              refine ce_iadd (z := nI (57 + 3 * b + 1)) dX8_lay_61 (nI_add _ _) ?_
              refine ce_iload_n dX8_lay_62 rfl ?_
              refine ce_iconst (v := nI (1)) dX8_lay_63 (by decide) ?_
              refine ce_iadd (z := nI (w + 1)) dX8_lay_64 (nI_add _ _) ?_
              refine ce_iast dX8_lay_65 (hA).1 rfl (hA).2 (by omega) (by decide) ?_
              generalize hcg1 : ce_up g (r) (57 + 3 * b + 1) (nI (w + 1)) = cg1
              have rcg1 : cr_row (cg1 (r)) (kv_up F 13 b (w + 1)) O := by rw [← hcg1, ce_up_eq]; exact (hr).ub1 (by omega) (w + 1)
              have fcg1 : ∀ x, x ≠ r → cg1 x = g0 x := fun x hx => by rw [← hcg1]; exact (ce_up_ne _ _ _ hx).trans (hf x hx)
              refine ce_aload_n dX8_lay_66 rfl ?_
              refine ce_iload dX8_lay_67 rfl ?_
              refine ce_cSp dX8_lay_69 hX8_binAt kRX8_58 (m_X8_binAt (b)) rfl rfl (by decide) (Nat.le_of_ble_eq_true rfl) ?_
              refine ce_iconst (v := nI (2)) dX8_lay_72 (by decide) ?_
              refine ce_iadd (z := nI (57 + 3 * b + 2)) dX8_lay_73 (nI_add _ _) ?_
              refine ce_dup2 dX8_lay_74 rfl rfl ?_
              refine ce_ialdv dX8_lay_75 (hA).1 rfl (hA).2 (by omega) (by decide) ((rcg1).b2 (by omega)) ?_
              refine ce_iload dX8_lay_76 rfl ?_
              refine ce_iadd (z := nI ((kv_up F 13 b (w + 1)) 12 b + (F 11 b - F 12 b))) dX8_lay_78 (nI_add _ _) ?_
              refine ce_iast dX8_lay_79 (hA).1 rfl (hA).2 (by omega) (by decide) ?_
              generalize hcg2 : ce_up cg1 (r) (57 + 3 * b + 2) (nI ((kv_up F 13 b (w + 1)) 12 b + (F 11 b - F 12 b))) = cg2
              have rcg2 : cr_row (cg2 (r)) (kv_up (kv_up F 13 b (w + 1)) 12 b ((kv_up F 13 b (w + 1)) 12 b + (F 11 b - F 12 b))) O := by rw [← hcg2, ce_up_eq]; exact (rcg1).ub2 (by omega) ((kv_up F 13 b (w + 1)) 12 b + (F 11 b - F 12 b))
              have fcg2 : ∀ x, x ≠ r → cg2 x = g0 x := fun x hx => by rw [← hcg2]; exact (ce_up_ne _ _ _ hx).trans (fcg1 x hx)
              refine ce_iload_n dX8_lay_80 rfl ?_
              refine ce_iload dX8_lay_81 rfl ?_
              refine ce_isub (z := nI (left - (F 11 b - F 12 b))) dX8_lay_83 (pk_sub (by omega)) ?_
              refine ce_istore_n dX8_lay_84 (Nat.le_of_ble_eq_true rfl) rfl ?_
              refine ce_goto (tgt := 2) dX8_lay_85 (by decide) ?_
              have em : min left (F 11 b - F 12 b) = F 11 b - F 12 b := by omega
              have eF : (kv_up (kv_up F 13 b (w + 1)) 12 b ((kv_up F 13 b (w + 1)) 12 b + (F 11 b - F 12 b))) = kv_put F b w (F 11 b - F 12 b) := by unfold kv_put; rw [kv_up_ne (a := 13) (b := 12) (by decide)]
              rw [em] at e1
              rw [e1]
              have hro := kq_room1 (F := F) (w := w) (n := F 11 b - F 12 b) hc.1 (hc.2.imp_right (fun e => e.1)) (by omega)
              refine ce_drop (L' := [some (.ref (r)), some (.int (nI (w))), some (.int (n)), some (.int (nI (left - (F 11 b - F 12 b)))), none, none]) (ce_le_s rfl (ce_le_s rfl (ce_le_s rfl (ce_le_s rfl (ce_le_n (ce_le_n ce_le_e)))))) ?_
              exact ih (left - (F 11 b - F 12 b)) _ cg2 (by omega) (kv_rk_put (n := F 11 b - F 12 b) hk (by omega) hw) (by omega) (by omega) fcg2 (eF ▸ rcg2)
            · refine ce_iload_n dX8_lay_42 rfl ?_
              refine ce_goto (tgt := 52) dX8_lay_43 (by decide) ?_
              refine ce_istore dX8_lay_52 (Nat.le_of_ble_eq_true rfl) rfl ?_
              refine ce_aload_n dX8_lay_54 rfl ?_
              refine ce_iload dX8_lay_55 rfl ?_
              refine ce_cSp dX8_lay_57 hX8_binAt kRX8_58 (m_X8_binAt (b)) rfl rfl (by decide) (Nat.le_of_ble_eq_true rfl) ?_
              refine ce_iconst (v := nI (1)) dX8_lay_60 (by decide) ?_
              refine ce_iadd (z := nI (57 + 3 * b + 1)) dX8_lay_61 (nI_add _ _) ?_
              refine ce_iload_n dX8_lay_62 rfl ?_
              refine ce_iconst (v := nI (1)) dX8_lay_63 (by decide) ?_
              refine ce_iadd (z := nI (w + 1)) dX8_lay_64 (nI_add _ _) ?_
              refine ce_iast dX8_lay_65 (hA).1 rfl (hA).2 (by omega) (by decide) ?_
              generalize hcg1 : ce_up g (r) (57 + 3 * b + 1) (nI (w + 1)) = cg1
              have rcg1 : cr_row (cg1 (r)) (kv_up F 13 b (w + 1)) O := by rw [← hcg1, ce_up_eq]; exact (hr).ub1 (by omega) (w + 1)
              have fcg1 : ∀ x, x ≠ r → cg1 x = g0 x := fun x hx => by rw [← hcg1]; exact (ce_up_ne _ _ _ hx).trans (hf x hx)
              refine ce_aload_n dX8_lay_66 rfl ?_
              refine ce_iload dX8_lay_67 rfl ?_
              refine ce_cSp dX8_lay_69 hX8_binAt kRX8_58 (m_X8_binAt (b)) rfl rfl (by decide) (Nat.le_of_ble_eq_true rfl) ?_
              refine ce_iconst (v := nI (2)) dX8_lay_72 (by decide) ?_
              refine ce_iadd (z := nI (57 + 3 * b + 2)) dX8_lay_73 (nI_add _ _) ?_
              refine ce_dup2 dX8_lay_74 rfl rfl ?_
              refine ce_ialdv dX8_lay_75 (hA).1 rfl (hA).2 (by omega) (by decide) ((rcg1).b2 (by omega)) ?_
              refine ce_iload dX8_lay_76 rfl ?_
              refine ce_iadd (z := nI ((kv_up F 13 b (w + 1)) 12 b + left)) dX8_lay_78 (nI_add _ _) ?_
              refine ce_iast dX8_lay_79 (hA).1 rfl (hA).2 (by omega) (by decide) ?_
              generalize hcg2 : ce_up cg1 (r) (57 + 3 * b + 2) (nI ((kv_up F 13 b (w + 1)) 12 b + left)) = cg2
              have rcg2 : cr_row (cg2 (r)) (kv_up (kv_up F 13 b (w + 1)) 12 b ((kv_up F 13 b (w + 1)) 12 b + left)) O := by rw [← hcg2, ce_up_eq]; exact (rcg1).ub2 (by omega) ((kv_up F 13 b (w + 1)) 12 b + left)
              have fcg2 : ∀ x, x ≠ r → cg2 x = g0 x := fun x hx => by rw [← hcg2]; exact (ce_up_ne _ _ _ hx).trans (fcg1 x hx)
              refine ce_iload_n dX8_lay_80 rfl ?_
              refine ce_iload dX8_lay_81 rfl ?_
              refine ce_isub (z := nI (left - (left))) dX8_lay_83 (pk_sub (by omega)) ?_
              refine ce_istore_n dX8_lay_84 (Nat.le_of_ble_eq_true rfl) rfl ?_
              refine ce_goto (tgt := 2) dX8_lay_85 (by decide) ?_
              have em : min left (F 11 b - F 12 b) = left := by omega
              have eF : (kv_up (kv_up F 13 b (w + 1)) 12 b ((kv_up F 13 b (w + 1)) 12 b + left)) = kv_put F b w (left) := by unfold kv_put; rw [kv_up_ne (a := 13) (b := 12) (by decide)]
              rw [em] at e1
              rw [e1]
              have hro := kq_room1 (F := F) (w := w) (n := left) hc.1 (hc.2.imp_right (fun e => e.1)) (by omega)
              refine ce_drop (L' := [some (.ref (r)), some (.int (nI (w))), some (.int (n)), some (.int (nI (left - (left)))), none, none]) (ce_le_s rfl (ce_le_s rfl (ce_le_s rfl (ce_le_s rfl (ce_le_n (ce_le_n ce_le_e)))))) ?_
              exact ih (left - (left)) _ cg2 (by omega) (kv_rk_put (n := left) hk (by omega) hw) (by omega) (by omega) fcg2 (eF ▸ rcg2)
      | some c =>
        have hbc : c = b := by rw [hp] at hb; exact Option.some.inj hb
        subst hbc
        have ho : ce_o (kv_fill F w (F 0 2)) = nI c := by rw [hp]; rfl
        refine ce_iload_n dX8_lay_2 rfl ?_
        refine ce_if_leN (tgt := 88) dX8_lay_3 (by decide) rfl (by omega) (fun c_3 => ?_) (fun c_3 => ?_)
        · omega
        · refine ce_aload_n dX8_lay_6 rfl ?_
          refine ce_iload_n dX8_lay_7 rfl ?_
          refine ce_cSp dX8_lay_8 hX8_tightest kRX8_74 (ho ▸ m_X8_tightest (r) F O ⟨(hA).1, (hA).2⟩ hr (w) hw hk) rfl rfl (by decide) (Nat.le_of_ble_eq_true rfl) ?_
          refine ce_istore dX8_lay_11 (Nat.le_of_ble_eq_true rfl) rfl ?_
          refine ce_iload dX8_lay_13 rfl ?_
          refine ce_ldc dX8_lay_15 kRX8_65 ?_
          refine ce_icmp_neI (p := ((c : Nat) : Int)) (q := (-99999)) (tgt := 28) dX8_lay_17 (by decide) (nI_toInt (by omega)) (by decide) (fun c_17 => ?_) (fun c_17 => ?_)
          · refine ce_iload dX8_lay_28 rfl ?_
            refine ce_istore dX8_lay_30 (Nat.le_of_ble_eq_true rfl) rfl ?_
            refine ce_iload_n dX8_lay_32 rfl ?_
            refine ce_aload_n dX8_lay_33 rfl ?_
            refine ce_iload dX8_lay_34 rfl ?_
            refine ce_cSp dX8_lay_36 hX8_roomIn kRX8_70 (m_X8_roomIn (r) F O ⟨(hA).1, (hA).2⟩ hr (c) (by omega) (by first | omega | exact (hk.2.1 _).1)) rfl rfl (by decide) (Nat.le_of_ble_eq_true rfl) ?_
            refine ce_icmp_geN (tgt := 46) dX8_lay_39 (by decide) rfl rfl (by omega) (by omega) (fun c_39 => ?_) (fun c_39 => ?_)
            · refine ce_aload_n dX8_lay_46 rfl ?_
              refine ce_iload dX8_lay_47 rfl ?_
              refine ce_cSp dX8_lay_49 hX8_roomIn kRX8_70 (m_X8_roomIn (r) F O ⟨(hA).1, (hA).2⟩ hr (c) (by omega) (by first | omega | exact (hk.2.1 _).1)) rfl rfl (by decide) (Nat.le_of_ble_eq_true rfl) ?_
              refine ce_istore dX8_lay_52 (Nat.le_of_ble_eq_true rfl) rfl ?_
              refine ce_aload_n dX8_lay_54 rfl ?_
              refine ce_iload dX8_lay_55 rfl ?_
              refine ce_cSp dX8_lay_57 hX8_binAt kRX8_58 (m_X8_binAt (c)) rfl rfl (by decide) (Nat.le_of_ble_eq_true rfl) ?_
              refine ce_iconst (v := nI (1)) dX8_lay_60 (by decide) ?_
              refine ce_iadd (z := nI (57 + 3 * c + 1)) dX8_lay_61 (nI_add _ _) ?_
              refine ce_iload_n dX8_lay_62 rfl ?_
              refine ce_iconst (v := nI (1)) dX8_lay_63 (by decide) ?_
              refine ce_iadd (z := nI (w + 1)) dX8_lay_64 (nI_add _ _) ?_
              refine ce_iast dX8_lay_65 (hA).1 rfl (hA).2 (by omega) (by decide) ?_
              generalize hcg1 : ce_up g (r) (57 + 3 * c + 1) (nI (w + 1)) = cg1
              have rcg1 : cr_row (cg1 (r)) (kv_up F 13 c (w + 1)) O := by rw [← hcg1, ce_up_eq]; exact (hr).ub1 (by omega) (w + 1)
              have fcg1 : ∀ x, x ≠ r → cg1 x = g0 x := fun x hx => by rw [← hcg1]; exact (ce_up_ne _ _ _ hx).trans (hf x hx)
              refine ce_aload_n dX8_lay_66 rfl ?_
              refine ce_iload dX8_lay_67 rfl ?_
              refine ce_cSp dX8_lay_69 hX8_binAt kRX8_58 (m_X8_binAt (c)) rfl rfl (by decide) (Nat.le_of_ble_eq_true rfl) ?_
              refine ce_iconst (v := nI (2)) dX8_lay_72 (by decide) ?_
              refine ce_iadd (z := nI (57 + 3 * c + 2)) dX8_lay_73 (nI_add _ _) ?_
              refine ce_dup2 dX8_lay_74 rfl rfl ?_
              refine ce_ialdv dX8_lay_75 (hA).1 rfl (hA).2 (by omega) (by decide) ((rcg1).b2 (by omega)) ?_
              refine ce_iload dX8_lay_76 rfl ?_
              refine ce_iadd (z := nI ((kv_up F 13 c (w + 1)) 12 c + (F 11 c - F 12 c))) dX8_lay_78 (nI_add _ _) ?_
              refine ce_iast dX8_lay_79 (hA).1 rfl (hA).2 (by omega) (by decide) ?_
              generalize hcg2 : ce_up cg1 (r) (57 + 3 * c + 2) (nI ((kv_up F 13 c (w + 1)) 12 c + (F 11 c - F 12 c))) = cg2
              have rcg2 : cr_row (cg2 (r)) (kv_up (kv_up F 13 c (w + 1)) 12 c ((kv_up F 13 c (w + 1)) 12 c + (F 11 c - F 12 c))) O := by rw [← hcg2, ce_up_eq]; exact (rcg1).ub2 (by omega) ((kv_up F 13 c (w + 1)) 12 c + (F 11 c - F 12 c))
              have fcg2 : ∀ x, x ≠ r → cg2 x = g0 x := fun x hx => by rw [← hcg2]; exact (ce_up_ne _ _ _ hx).trans (fcg1 x hx)
              refine ce_iload_n dX8_lay_80 rfl ?_
              refine ce_iload dX8_lay_81 rfl ?_
              refine ce_isub (z := nI (left - (F 11 c - F 12 c))) dX8_lay_83 (pk_sub (by omega)) ?_
              refine ce_istore_n dX8_lay_84 (Nat.le_of_ble_eq_true rfl) rfl ?_
              refine ce_goto (tgt := 2) dX8_lay_85 (by decide) ?_
              have em : min left (F 11 c - F 12 c) = F 11 c - F 12 c := by omega
              have eF : (kv_up (kv_up F 13 c (w + 1)) 12 c ((kv_up F 13 c (w + 1)) 12 c + (F 11 c - F 12 c))) = kv_put F c w (F 11 c - F 12 c) := by unfold kv_put; rw [kv_up_ne (a := 13) (b := 12) (by decide)]
              rw [em] at e1
              rw [e1]
              have hro := kq_room1 (F := F) (w := w) (n := F 11 c - F 12 c) hc.1 (hc.2.imp_right (fun e => e.1)) (by omega)
              refine ce_drop (L' := [some (.ref (r)), some (.int (nI (w))), some (.int (n)), some (.int (nI (left - (F 11 c - F 12 c)))), none, none]) (ce_le_s rfl (ce_le_s rfl (ce_le_s rfl (ce_le_s rfl (ce_le_n (ce_le_n ce_le_e)))))) ?_
              exact ih (left - (F 11 c - F 12 c)) _ cg2 (by omega) (kv_rk_put (n := F 11 c - F 12 c) hk (by omega) hw) (by omega) (by omega) fcg2 (eF ▸ rcg2)
            · refine ce_iload_n dX8_lay_42 rfl ?_
              refine ce_goto (tgt := 52) dX8_lay_43 (by decide) ?_
              refine ce_istore dX8_lay_52 (Nat.le_of_ble_eq_true rfl) rfl ?_
              refine ce_aload_n dX8_lay_54 rfl ?_
              refine ce_iload dX8_lay_55 rfl ?_
              refine ce_cSp dX8_lay_57 hX8_binAt kRX8_58 (m_X8_binAt (c)) rfl rfl (by decide) (Nat.le_of_ble_eq_true rfl) ?_
              refine ce_iconst (v := nI (1)) dX8_lay_60 (by decide) ?_
              refine ce_iadd (z := nI (57 + 3 * c + 1)) dX8_lay_61 (nI_add _ _) ?_
              refine ce_iload_n dX8_lay_62 rfl ?_
              refine ce_iconst (v := nI (1)) dX8_lay_63 (by decide) ?_
              refine ce_iadd (z := nI (w + 1)) dX8_lay_64 (nI_add _ _) ?_
              refine ce_iast dX8_lay_65 (hA).1 rfl (hA).2 (by omega) (by decide) ?_
              generalize hcg1 : ce_up g (r) (57 + 3 * c + 1) (nI (w + 1)) = cg1
              have rcg1 : cr_row (cg1 (r)) (kv_up F 13 c (w + 1)) O := by rw [← hcg1, ce_up_eq]; exact (hr).ub1 (by omega) (w + 1)
              have fcg1 : ∀ x, x ≠ r → cg1 x = g0 x := fun x hx => by rw [← hcg1]; exact (ce_up_ne _ _ _ hx).trans (hf x hx)
              refine ce_aload_n dX8_lay_66 rfl ?_
              refine ce_iload dX8_lay_67 rfl ?_
              refine ce_cSp dX8_lay_69 hX8_binAt kRX8_58 (m_X8_binAt (c)) rfl rfl (by decide) (Nat.le_of_ble_eq_true rfl) ?_
              refine ce_iconst (v := nI (2)) dX8_lay_72 (by decide) ?_
              refine ce_iadd (z := nI (57 + 3 * c + 2)) dX8_lay_73 (nI_add _ _) ?_
              refine ce_dup2 dX8_lay_74 rfl rfl ?_
              refine ce_ialdv dX8_lay_75 (hA).1 rfl (hA).2 (by omega) (by decide) ((rcg1).b2 (by omega)) ?_
              refine ce_iload dX8_lay_76 rfl ?_
              refine ce_iadd (z := nI ((kv_up F 13 c (w + 1)) 12 c + left)) dX8_lay_78 (nI_add _ _) ?_
              refine ce_iast dX8_lay_79 (hA).1 rfl (hA).2 (by omega) (by decide) ?_
              generalize hcg2 : ce_up cg1 (r) (57 + 3 * c + 2) (nI ((kv_up F 13 c (w + 1)) 12 c + left)) = cg2
              have rcg2 : cr_row (cg2 (r)) (kv_up (kv_up F 13 c (w + 1)) 12 c ((kv_up F 13 c (w + 1)) 12 c + left)) O := by rw [← hcg2, ce_up_eq]; exact (rcg1).ub2 (by omega) ((kv_up F 13 c (w + 1)) 12 c + left)
              have fcg2 : ∀ x, x ≠ r → cg2 x = g0 x := fun x hx => by rw [← hcg2]; exact (ce_up_ne _ _ _ hx).trans (fcg1 x hx)
              refine ce_iload_n dX8_lay_80 rfl ?_
              refine ce_iload dX8_lay_81 rfl ?_
              refine ce_isub (z := nI (left - (left))) dX8_lay_83 (pk_sub (by omega)) ?_
              refine ce_istore_n dX8_lay_84 (Nat.le_of_ble_eq_true rfl) rfl ?_
              refine ce_goto (tgt := 2) dX8_lay_85 (by decide) ?_
              have em : min left (F 11 c - F 12 c) = left := by omega
              have eF : (kv_up (kv_up F 13 c (w + 1)) 12 c ((kv_up F 13 c (w + 1)) 12 c + left)) = kv_put F c w (left) := by unfold kv_put; rw [kv_up_ne (a := 13) (b := 12) (by decide)]
              rw [em] at e1
              rw [e1]
              have hro := kq_room1 (F := F) (w := w) (n := left) hc.1 (hc.2.imp_right (fun e => e.1)) (by omega)
              refine ce_drop (L' := [some (.ref (r)), some (.int (nI (w))), some (.int (n)), some (.int (nI (left - (left)))), none, none]) (ce_le_s rfl (ce_le_s rfl (ce_le_s rfl (ce_le_s rfl (ce_le_n (ce_le_n ce_le_e)))))) ?_
              exact ih (left - (left)) _ cg2 (by omega) (kv_rk_put (n := left) hk (by omega) hw) (by omega) (by omega) fcg2 (eF ▸ rcg2)
          · omega
set_option maxHeartbeats 2000000 in
set_option maxRecDepth 20000 in
theorem m_X8_lay {σ : ce_S} {g0 : ce_D} (r : Nat) (F : ce_V) (O : Nat → Int32) (hA : ce_LA σ 10 r 189) (hr : cr_row (g0 r) F O) (w left : Nat) (hw : w < 6) (hk : kv_rk F) (hle : left ≤ ce_sum (kv_room F w) (F 0 2)) (hl9 : left ≤ 1000) : ce_CT (ce_r 3) mX8_lay [.ref (r), .int (nI (w)), .int (nI (left))] σ g0 (ce_uv σ (fun g' => cr_row (g' r) (kv_lay w 8 left F) O ∧ ∀ x, x ≠ r → g' x = g0 x)) ce_no := by
  refine ce_enter (by decide) rfl (Nat.le_of_ble_eq_true rfl) (L := [some (.ref (r)), some (.int (nI (w))), some (.int (nI (left))), none, none, none]) rfl ?_
  refine ce_iload_n dX8_lay_0 rfl ?_
  refine ce_istore_n dX8_lay_1 (Nat.le_of_ble_eq_true rfl) rfl ?_
  exact w_X8_lay r O hA w hw (nI left) (left + 1) left F g0 (by omega) hk hle hl9 (fun _ _ => rfl) hr
set_option maxHeartbeats 2000000 in
set_option maxRecDepth 20000 in
theorem w1_X8_take {σ : ce_S} {g : ce_D} (r : Nat) (F : ce_V) (O : Nat → Int32) (hA : ce_LA σ 10 r 189) (hr : cr_row (g r) F O) (w left : Nat) (n : Int32) (hw : w < 6) (hk : kv_rk F) {Q : Option Value → ce_S → ce_D → Prop} {X : String → ce_S → ce_D → Prop} (kk : ce_WP (ce_r 2) mX8_take 0 0 74 [some (.ref (r)), some (.int (nI (w))), some (.int (n)), some (.int (nI (left))), some (.int (ce_o (kv_tf F w (F 0 2)))), none] [] σ g Q X) : ∀ (n9 i : Nat), F 0 2 - i < n9 → i ≤ F 0 2 → ce_WP (ce_r 2) mX8_take 0 0 13 [some (.ref (r)), some (.int (nI (w))), some (.int (n)), some (.int (nI (left))), some (.int (ce_o (kv_tf F w i))), some (.int (nI (i)))] [] σ g Q X := by
  intro n9
  induction n9 with
  | zero =>
    intros
    omega
  | succ n9 ih =>
    intro i hm hi
    have hB := hk.1
    have h12 := hk.2.1 i
    cases hp : kv_tf F w i with
    | none =>
      show ce_WP (ce_r 2) mX8_take 0 0 13 [some (.ref (r)), some (.int (nI (w))), some (.int (n)), some (.int (nI (left))), some (.int ((-99999))), some (.int (nI (i)))] [] σ g Q X
      refine ce_iload dX8_take_13 rfl ?_
      refine ce_aload_n dX8_take_15 rfl ?_
      refine ce_iconst (v := nI (2)) dX8_take_16 (by decide) ?_
      refine ce_ialdv dX8_take_17 (hA).1 rfl (hA).2 (by omega) (by decide) ((hr).c2) ?_
      refine ce_icmp_geN (tgt := 74) dX8_take_18 (by decide) rfl rfl (by omega) (by omega) (fun c_18 => ?_) (fun c_18 => ?_)
      · refine ce_drop (L' := [some (.ref (r)), some (.int (nI (w))), some (.int (n)), some (.int (nI (left))), some (.int ((-99999))), none]) (ce_le_s rfl (ce_le_s rfl (ce_le_s rfl (ce_le_s rfl (ce_le_s rfl (ce_le_n ce_le_e)))))) ?_
        rw [show i = F 0 2 by omega] at hp
        rw [hp] at kk
        exact kk
      · refine ce_aload_n dX8_take_21 rfl ?_
        refine ce_iload dX8_take_22 rfl ?_
        refine ce_iload_n dX8_take_24 rfl ?_
        refine ce_cSp dX8_take_25 hX8_hasWine kRX8_66 (m_X8_hasWine (r) F O ⟨(hA).1, (hA).2⟩ hr (i) (w) (by omega) (by omega) hk) rfl rfl (by decide) (Nat.le_of_ble_eq_true rfl) ?_
        refine ce_if_eqB (tgt := 64) dX8_take_28 (by decide) rfl (fun c_28 => ?_) (fun c_28 => ?_)
        · refine ce_iload dX8_take_64 rfl ?_
          refine ce_istore dX8_take_66 (Nat.le_of_ble_eq_true rfl) rfl ?_
          refine ce_iinc (v := nI (i + 1)) dX8_take_68 rfl (ce_inc1 _) (Nat.le_of_ble_eq_true rfl) rfl ?_
          refine ce_goto (tgt := 13) dX8_take_71 (by decide) ?_
          have e9 : kv_tf F w (i + 1) = none := by
            unfold kv_tf
            rw [hp]
            dsimp only
            (repeat' split) <;> first | rfl | (exfalso; omega)
          have e8 := ih (i + 1) (by omega) (by omega)
          rw [e9] at e8
          exact e8
        · refine ce_iload dX8_take_31 rfl ?_
          refine ce_ldc dX8_take_33 kRX8_65 ?_
          refine ce_icmp_eqI (p := (-99999)) (q := (-99999)) (tgt := 59) dX8_take_35 (by decide) (by decide) (by decide) (fun c_35 => ?_) (fun c_35 => ?_)
          · refine ce_iload dX8_take_59 rfl ?_
            refine ce_goto (tgt := 66) dX8_take_61 (by decide) ?_
            refine ce_istore dX8_take_66 (Nat.le_of_ble_eq_true rfl) rfl ?_
            refine ce_iinc (v := nI (i + 1)) dX8_take_68 rfl (ce_inc1 _) (Nat.le_of_ble_eq_true rfl) rfl ?_
            refine ce_goto (tgt := 13) dX8_take_71 (by decide) ?_
            have e9 : kv_tf F w (i + 1) = some (i) := by
              unfold kv_tf
              rw [hp]
              dsimp only
              (repeat' split) <;> first | rfl | (exfalso; omega)
            have e8 := ih (i + 1) (by omega) (by omega)
            rw [e9] at e8
            exact e8
          · omega
    | some o =>
      have hc := kv_tf_lt hp
      have ho12 := hk.2.1 o
      show ce_WP (ce_r 2) mX8_take 0 0 13 [some (.ref (r)), some (.int (nI (w))), some (.int (n)), some (.int (nI (left))), some (.int (nI (o))), some (.int (nI (i)))] [] σ g Q X
      refine ce_iload dX8_take_13 rfl ?_
      refine ce_aload_n dX8_take_15 rfl ?_
      refine ce_iconst (v := nI (2)) dX8_take_16 (by decide) ?_
      refine ce_ialdv dX8_take_17 (hA).1 rfl (hA).2 (by omega) (by decide) ((hr).c2) ?_
      refine ce_icmp_geN (tgt := 74) dX8_take_18 (by decide) rfl rfl (by omega) (by omega) (fun c_18 => ?_) (fun c_18 => ?_)
      · refine ce_drop (L' := [some (.ref (r)), some (.int (nI (w))), some (.int (n)), some (.int (nI (left))), some (.int (nI (o))), none]) (ce_le_s rfl (ce_le_s rfl (ce_le_s rfl (ce_le_s rfl (ce_le_s rfl (ce_le_n ce_le_e)))))) ?_
        rw [show i = F 0 2 by omega] at hp
        rw [hp] at kk
        exact kk
      · refine ce_aload_n dX8_take_21 rfl ?_
        refine ce_iload dX8_take_22 rfl ?_
        refine ce_iload_n dX8_take_24 rfl ?_
        refine ce_cSp dX8_take_25 hX8_hasWine kRX8_66 (m_X8_hasWine (r) F O ⟨(hA).1, (hA).2⟩ hr (i) (w) (by omega) (by omega) hk) rfl rfl (by decide) (Nat.le_of_ble_eq_true rfl) ?_
        refine ce_if_eqB (tgt := 64) dX8_take_28 (by decide) rfl (fun c_28 => ?_) (fun c_28 => ?_)
        · refine ce_iload dX8_take_64 rfl ?_
          refine ce_istore dX8_take_66 (Nat.le_of_ble_eq_true rfl) rfl ?_
          refine ce_iinc (v := nI (i + 1)) dX8_take_68 rfl (ce_inc1 _) (Nat.le_of_ble_eq_true rfl) rfl ?_
          refine ce_goto (tgt := 13) dX8_take_71 (by decide) ?_
          have e9 : kv_tf F w (i + 1) = some (o) := by
            unfold kv_tf
            rw [hp]
            dsimp only
            (repeat' split) <;> first | rfl | (exfalso; omega)
          have e8 := ih (i + 1) (by omega) (by omega)
          rw [e9] at e8
          exact e8
        · refine ce_iload dX8_take_31 rfl ?_
          refine ce_ldc dX8_take_33 kRX8_65 ?_
          refine ce_icmp_eqI (p := ((o : Nat) : Int)) (q := (-99999)) (tgt := 59) dX8_take_35 (by decide) (nI_toInt (by omega)) (by decide) (fun c_35 => ?_) (fun c_35 => ?_)
          · omega
          · refine ce_aload_n dX8_take_38 rfl ?_
            refine ce_iload dX8_take_39 rfl ?_
            refine ce_cSp dX8_take_41 hX8_binAt kRX8_58 (m_X8_binAt (i)) rfl rfl (by decide) (Nat.le_of_ble_eq_true rfl) ?_
            refine ce_iconst (v := nI (2)) dX8_take_44 (by decide) ?_
            refine ce_iadd (z := nI (57 + 3 * i + 2)) dX8_take_45 (nI_add _ _) ?_
            refine ce_ialdv dX8_take_46 (hA).1 rfl (hA).2 (by omega) (by decide) ((hr).b2 (by omega)) ?_
            refine ce_aload_n dX8_take_47 rfl ?_
            refine ce_iload dX8_take_48 rfl ?_
            refine ce_cSp dX8_take_50 hX8_binAt kRX8_58 (m_X8_binAt (o)) rfl rfl (by decide) (Nat.le_of_ble_eq_true rfl) ?_
            refine ce_iconst (v := nI (2)) dX8_take_53 (by decide) ?_
            refine ce_iadd (z := nI (57 + 3 * o + 2)) dX8_take_54 (nI_add _ _) ?_
            refine ce_ialdv dX8_take_55 (hA).1 rfl (hA).2 (by omega) (by decide) ((hr).b2 (by omega)) ?_
            refine ce_icmp_gtN (tgt := 64) dX8_take_56 (by decide) rfl rfl (by omega) (by omega) (fun c_56 => ?_) (fun c_56 => ?_)
            · refine ce_iload dX8_take_64 rfl ?_
              refine ce_istore dX8_take_66 (Nat.le_of_ble_eq_true rfl) rfl ?_
              refine ce_iinc (v := nI (i + 1)) dX8_take_68 rfl (ce_inc1 _) (Nat.le_of_ble_eq_true rfl) rfl ?_
              refine ce_goto (tgt := 13) dX8_take_71 (by decide) ?_
              have e9 : kv_tf F w (i + 1) = some (o) := by
                unfold kv_tf
                rw [hp]
                dsimp only
                (repeat' split) <;> first | rfl | (exfalso; omega)
              have e8 := ih (i + 1) (by omega) (by omega)
              rw [e9] at e8
              exact e8
            · refine ce_iload dX8_take_59 rfl ?_
              refine ce_goto (tgt := 66) dX8_take_61 (by decide) ?_
              refine ce_istore dX8_take_66 (Nat.le_of_ble_eq_true rfl) rfl ?_
              refine ce_iinc (v := nI (i + 1)) dX8_take_68 rfl (ce_inc1 _) (Nat.le_of_ble_eq_true rfl) rfl ?_
              refine ce_goto (tgt := 13) dX8_take_71 (by decide) ?_
              have e9 : kv_tf F w (i + 1) = some (i) := by
                unfold kv_tf
                rw [hp]
                dsimp only
                (repeat' split) <;> first | rfl | (exfalso; omega)
              have e8 := ih (i + 1) (by omega) (by omega)
              rw [e9] at e8
              exact e8
set_option maxHeartbeats 2000000 in
set_option maxRecDepth 20000 in
theorem w_X8_take {σ : ce_S} {g0 : ce_D} (r : Nat) (O : Nat → Int32) (hA : ce_LA σ 10 r 189) (w : Nat) (hw : w < 6) (n : Int32) : ∀ (n9 left : Nat) (F : ce_V) (g : ce_D), left < n9 → kv_rk F → left ≤ kv_bs F w → left ≤ 1000 → (∀ x, x ≠ r → g x = g0 x) → cr_row (g r) F O → ce_WP (ce_r 2) mX8_take 0 0 2 [some (.ref (r)), some (.int (nI (w))), some (.int (n)), some (.int (nI (left))), none, none] [] σ g (ce_uv σ (fun g' => cr_row (g' r) (kv_take w 8 left F) O ∧ ∀ x, x ≠ r → g' x = g0 x)) ce_no := by
  intro n9
  induction n9 with
  | zero =>
    intros
    omega
  | succ n9 ih =>
    intro left F g hm hk hle hl9 hf hr
    have hB := hk.1
    by_cases h0 : left = 0
    · refine ce_iload_n dX8_take_2 rfl ?_
      refine ce_if_leN (tgt := 124) dX8_take_3 (by decide) rfl (by omega) (fun c_3 => ?_) (fun c_3 => ?_)
      · exact ce_vret dX8_take_124 rfl (by decide) (by decide) ⟨rfl, rfl, by rw [h0, kv_take_0]; exact hr, hf⟩
      · omega
    · have hne : kv_tf F w (F 0 2) ≠ none := fun e => by have := kv_tk_none hk e; omega
      obtain ⟨b, hb⟩ := Option.ne_none_iff_exists'.mp hne
      have hc := kv_tf_lt hb
      have h12 := hk.2.1 b
      have e1 := kq_take1 (left := left) hk (by omega) hb
      refine ce_iload_n dX8_take_2 rfl ?_
      refine ce_if_leN (tgt := 124) dX8_take_3 (by decide) rfl (by omega) (fun c_3 => ?_) (fun c_3 => ?_)
      · omega
      · refine ce_ldc dX8_take_6 kRX8_65 ?_
        refine ce_istore dX8_take_8 (Nat.le_of_ble_eq_true rfl) rfl ?_
        refine ce_iconst (v := nI (0)) dX8_take_10 (by decide) ?_
        refine ce_istore dX8_take_11 (Nat.le_of_ble_eq_true rfl) rfl ?_
        refine w1_X8_take r F O hA hr w left n hw hk ?_ (F 0 2 + 1) 0 (by omega) (by omega)
        rw [hb]
        show ce_WP (ce_r 2) mX8_take 0 0 74 [some (.ref (r)), some (.int (nI (w))), some (.int (n)), some (.int (nI (left))), some (.int (nI (b))), none] [] σ g (ce_uv σ (fun g' => cr_row (g' r) (kv_take w 8 left F) O ∧ ∀ x, x ≠ r → g' x = g0 x)) ce_no
        refine ce_iload_n dX8_take_74 rfl ?_
        refine ce_aload_n dX8_take_75 rfl ?_
        refine ce_iload dX8_take_76 rfl ?_
        refine ce_cSp dX8_take_78 hX8_binAt kRX8_58 (m_X8_binAt (b)) rfl rfl (by decide) (Nat.le_of_ble_eq_true rfl) ?_
        refine ce_iconst (v := nI (2)) dX8_take_81 (by decide) ?_
        refine ce_iadd (z := nI (57 + 3 * b + 2)) dX8_take_82 (nI_add _ _) ?_
        refine ce_ialdv dX8_take_83 (hA).1 rfl (hA).2 (by omega) (by decide) ((hr).b2 (by omega)) ?_
        refine ce_icmp_geN (tgt := 91) dX8_take_84 (by decide) rfl rfl (by omega) (by omega) (fun c_84 => ?_) (fun c_84 => ?_)
        · refine ce_aload_n dX8_take_91 rfl ?_
          refine ce_iload dX8_take_92 rfl ?_
          refine ce_cSp dX8_take_94 hX8_binAt kRX8_58 (m_X8_binAt (b)) rfl rfl (by decide) (Nat.le_of_ble_eq_true rfl) ?_
          refine ce_iconst (v := nI (2)) dX8_take_97 (by decide) ?_
          refine ce_iadd (z := nI (57 + 3 * b + 2)) dX8_take_98 (nI_add _ _) ?_
          refine ce_ialdv dX8_take_99 (hA).1 rfl (hA).2 (by omega) (by decide) ((hr).b2 (by omega)) ?_
          refine ce_istore dX8_take_100 (Nat.le_of_ble_eq_true rfl) rfl ?_
          refine ce_aload_n dX8_take_102 rfl ?_
          refine ce_iload dX8_take_103 rfl ?_
          refine ce_cSp dX8_take_105 hX8_binAt kRX8_58 (m_X8_binAt (b)) rfl rfl (by decide) (Nat.le_of_ble_eq_true rfl) ?_
          refine ce_iconst (v := nI (2)) dX8_take_108 (by decide) ?_
          refine ce_iadd (z := nI (57 + 3 * b + 2)) dX8_take_109 (nI_add _ _) ?_
          refine ce_dup2 dX8_take_110 rfl rfl ?_
          refine ce_ialdv dX8_take_111 (hA).1 rfl (hA).2 (by omega) (by decide) ((hr).b2 (by omega)) ?_
          refine ce_iload dX8_take_112 rfl ?_
          refine ce_isub (z := nI (F 12 b - (F 12 b))) dX8_take_114 (pk_sub (by omega)) ?_
          refine ce_iast dX8_take_115 (hA).1 rfl (hA).2 (by omega) (by decide) ?_
          generalize hcg1 : ce_up g (r) (57 + 3 * b + 2) (nI (F 12 b - (F 12 b))) = cg1
          have rcg1 : cr_row (cg1 (r)) (kv_up F 12 b (F 12 b - (F 12 b))) O := by rw [← hcg1, ce_up_eq]; exact (hr).ub2 (by omega) (F 12 b - (F 12 b))
          have fcg1 : ∀ x, x ≠ r → cg1 x = g0 x := fun x hx => by rw [← hcg1]; exact (ce_up_ne _ _ _ hx).trans (hf x hx)
          refine ce_iload_n dX8_take_116 rfl ?_
          refine ce_iload dX8_take_117 rfl ?_
          refine ce_isub (z := nI (left - (F 12 b))) dX8_take_119 (pk_sub (by omega)) ?_
          refine ce_istore_n dX8_take_120 (Nat.le_of_ble_eq_true rfl) rfl ?_
          refine ce_goto (tgt := 2) dX8_take_121 (by decide) ?_
          have em : min left (F 12 b) = F 12 b := by omega
          rw [em] at e1
          rw [e1]
          have hbs := kv_bs_rem (K := F) (w := w) (b := b) (n := F 12 b) (by omega) hc.2.2 (by omega) w
          rw [if_pos rfl] at hbs
          refine ce_drop (L' := [some (.ref (r)), some (.int (nI (w))), some (.int (n)), some (.int (nI (left - (F 12 b)))), none, none]) (ce_le_s rfl (ce_le_s rfl (ce_le_s rfl (ce_le_s rfl (ce_le_n (ce_le_n ce_le_e)))))) ?_
          exact ih (left - (F 12 b)) _ cg1 (by omega) (kv_rk_rem (n := F 12 b) hk) (by omega) (by omega) fcg1 rcg1
        · refine ce_iload_n dX8_take_87 rfl ?_
          refine ce_goto (tgt := 100) dX8_take_88 (by decide) ?_
          refine ce_istore dX8_take_100 (Nat.le_of_ble_eq_true rfl) rfl ?_
          refine ce_aload_n dX8_take_102 rfl ?_
          refine ce_iload dX8_take_103 rfl ?_
          refine ce_cSp dX8_take_105 hX8_binAt kRX8_58 (m_X8_binAt (b)) rfl rfl (by decide) (Nat.le_of_ble_eq_true rfl) ?_
          refine ce_iconst (v := nI (2)) dX8_take_108 (by decide) ?_
          refine ce_iadd (z := nI (57 + 3 * b + 2)) dX8_take_109 (nI_add _ _) ?_
          refine ce_dup2 dX8_take_110 rfl rfl ?_
          refine ce_ialdv dX8_take_111 (hA).1 rfl (hA).2 (by omega) (by decide) ((hr).b2 (by omega)) ?_
          refine ce_iload dX8_take_112 rfl ?_
          refine ce_isub (z := nI (F 12 b - (left))) dX8_take_114 (pk_sub (by omega)) ?_
          refine ce_iast dX8_take_115 (hA).1 rfl (hA).2 (by omega) (by decide) ?_
          generalize hcg1 : ce_up g (r) (57 + 3 * b + 2) (nI (F 12 b - (left))) = cg1
          have rcg1 : cr_row (cg1 (r)) (kv_up F 12 b (F 12 b - (left))) O := by rw [← hcg1, ce_up_eq]; exact (hr).ub2 (by omega) (F 12 b - (left))
          have fcg1 : ∀ x, x ≠ r → cg1 x = g0 x := fun x hx => by rw [← hcg1]; exact (ce_up_ne _ _ _ hx).trans (hf x hx)
          refine ce_iload_n dX8_take_116 rfl ?_
          refine ce_iload dX8_take_117 rfl ?_
          refine ce_isub (z := nI (left - (left))) dX8_take_119 (pk_sub (by omega)) ?_
          refine ce_istore_n dX8_take_120 (Nat.le_of_ble_eq_true rfl) rfl ?_
          refine ce_goto (tgt := 2) dX8_take_121 (by decide) ?_
          have em : min left (F 12 b) = left := by omega
          rw [em] at e1
          rw [e1]
          have hbs := kv_bs_rem (K := F) (w := w) (b := b) (n := left) (by omega) hc.2.2 (by omega) w
          rw [if_pos rfl] at hbs
          refine ce_drop (L' := [some (.ref (r)), some (.int (nI (w))), some (.int (n)), some (.int (nI (left - (left)))), none, none]) (ce_le_s rfl (ce_le_s rfl (ce_le_s rfl (ce_le_s rfl (ce_le_n (ce_le_n ce_le_e)))))) ?_
          exact ih (left - (left)) _ cg1 (by omega) (kv_rk_rem (n := left) hk) (by omega) (by omega) fcg1 rcg1
set_option maxHeartbeats 2000000 in
set_option maxRecDepth 20000 in
theorem m_X8_take {σ : ce_S} {g0 : ce_D} (r : Nat) (F : ce_V) (O : Nat → Int32) (hA : ce_LA σ 10 r 189) (hr : cr_row (g0 r) F O) (w left : Nat) (hw : w < 6) (hk : kv_rk F) (hle : left ≤ kv_bs F w) (hl9 : left ≤ 1000) : ce_CT (ce_r 2) mX8_take [.ref (r), .int (nI (w)), .int (nI (left))] σ g0 (ce_uv σ (fun g' => cr_row (g' r) (kv_take w 8 left F) O ∧ ∀ x, x ≠ r → g' x = g0 x)) ce_no := by
  refine ce_enter (by decide) rfl (Nat.le_of_ble_eq_true rfl) (L := [some (.ref (r)), some (.int (nI (w))), some (.int (nI (left))), none, none, none]) rfl ?_
  refine ce_iload_n dX8_take_0 rfl ?_
  refine ce_istore_n dX8_take_1 (Nat.le_of_ble_eq_true rfl) rfl ?_
  exact w_X8_take r O hA w hw (nI left) (left + 1) left F g0 (by omega) hk hle hl9 (fun _ _ => rfl) hr
