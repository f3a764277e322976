section CEU
theorem cl_cmd {K : ce_V} (h : kv_cl K) {G : Nat} (hG : G < 100000) : kv_cl (ks_ite (kt_f K G) (kt_K K G) K) := by
  unfold ks_ite
  by_cases h0 : kt_f K G = 0
  · rw [if_pos h0]
    have hk : G / 10000 = 0 ∨ G / 10000 = 1 ∨ G / 10000 = 2 ∨ G / 10000 = 3 ∨ G / 10000 = 4 ∨ G / 10000 = 5 ∨ G / 10000 = 6 ∨ G / 10000 = 7 ∨ G / 10000 = 8 ∨ G / 10000 = 9 := by omega
    rcases hk with hq | hq | hq | hq | hq | hq | hq | hq | hq | hq
    · have e2 : kt_K K G = K := by unfold kt_K; rw [hq]; try rfl
      rw [e2]; exact h
    · have e1 : kt_f K G = kv_ordF K (nI (G / 1000 % 10)) (nI (G / 100 % 10)) (nI (G % 100)) := by unfold kt_f; rw [hq]; try rfl
      have e2 : kt_K K G = kv_ord K (G / 1000 % 10) (G / 100 % 10) (G % 100) := by unfold kt_K; rw [hq]; try rfl
      rw [e1] at h0
      rw [e2]
      have q := kv_ord0 (by omega) (by omega) (by omega) h0
      exact cl_ord h q.1 q.2.1 q.2.2.1
    · have e1 : kt_f K G = (if (G / 100 % 10) = 0 ∧ (G % 100) = 0 then kv_allF K (nI (G / 1000 % 10)) else 9) := by unfold kt_f; rw [hq]; try rfl
      have e2 : kt_K K G = kv_all K (G / 1000 % 10) := by unfold kt_K; rw [hq]; try rfl
      rw [e1] at h0
      rw [e2]
      split at h0
      · have q := kv_all0 (by omega) h0
        exact cl_all h q.1 q.2
      · omega
    · have e1 : kt_f K G = (if (G / 100 % 10) = 0 ∧ (G % 100) = 0 then kv_delF K (nI (G / 1000 % 10)) else 9) := by unfold kt_f; rw [hq]; try rfl
      have e2 : kt_K K G = kv_bri K (G / 1000 % 10) := by unfold kt_K; rw [hq]; try rfl
      rw [e1] at h0
      rw [e2]
      split at h0
      · have q := kv_del0 (by omega) h0
        exact cl_bri h q.1 q.2.1 q.2.2
      · omega
    · have e1 : kt_f K G = kv_driF K (nI (G / 1000 % 10)) (nI (G / 100 % 10)) (nI (G % 100)) := by unfold kt_f; rw [hq]; try rfl
      have e2 : kt_K K G = kv_dri K (G / 1000 % 10) (G / 100 % 10) (G % 100) := by unfold kt_K; rw [hq]; try rfl
      rw [e1] at h0
      rw [e2]
      have q := kv_dri0 (by omega) (by omega) (by omega) h0
      exact cl_dri h q.1 q.2.1 ⟨q.2.2.1, q.2.2.2.2⟩
    · have e1 : kt_f K G = kv_gifF K (nI (G / 1000 % 10)) (nI (G / 100 % 10)) (nI (G % 100 / 10)) (nI (G % 100 % 10)) := by unfold kt_f; rw [hq]; try rfl
      have e2 : kt_K K G = kv_han K (G / 1000 % 10) (G / 100 % 10) (G % 100 / 10) (G % 100 % 10) := by unfold kt_K; rw [hq]; try rfl
      rw [e1] at h0
      rw [e2]
      have q := kv_gif0 (by omega) (by omega) (by omega) (by omega) h0
      exact cl_han h q.1 q.2.1 q.2.2.1 q.2.2.2.1 ⟨q.2.2.2.2.1, q.2.2.2.2.2.2⟩
    · have e1 : kt_f K G = (if (G % 100) = 0 then kv_corF K (nI (G / 1000 % 10)) (nI (G / 100 % 10)) else 9) := by unfold kt_f; rw [hq]; try rfl
      have e2 : kt_K K G = kv_cor K (G / 1000 % 10) (G / 100 % 10) := by unfold kt_K; rw [hq]; try rfl
      rw [e1] at h0
      rw [e2]
      split at h0
      · have q := kv_cor0 (by omega) (by omega) h0
        exact cl_cor h q.1 q.2.1 q.2.2
      · omega
    · have e1 : kt_f K G = kv_carF K (nI (G / 1000 % 10)) (nI (G / 100 % 10)) (nI (G % 100)) := by unfold kt_f; rw [hq]; try rfl
      have e2 : kt_K K G = kv_car K (G / 1000 % 10) (G / 100 % 10) (G % 100) := by unfold kt_K; rw [hq]; try rfl
      rw [e1] at h0
      rw [e2]
      have q := kv_car0 h.rk (by omega) (by omega) (by omega) h0
      exact cl_car h q.1 q.2.1 q.2.2.1 ⟨q.2.2.2.1, q.2.2.2.2.2.1⟩ q.2.2.2.2.2.2.1 q.2.2.2.2.2.2.2
    · have e2 : kt_K K G = K := by unfold kt_K; rw [hq]; try rfl
      rw [e2]; exact h
    · have e2 : kt_K K G = K := by unfold kt_K; rw [hq]; try rfl
      rw [e2]; exact h
  · rw [if_neg h0]; exact h
theorem cl_eve {K : ce_V} (h : kv_cl K) {R : Nat} (hR : R < 2 ^ 31) : kv_cl (ks_ite (ke_f K R) (ke_K K R) K) := by
  unfold ks_ite
  by_cases h0 : ke_f K R = 0
  · rw [if_pos h0]
    by_cases hz : K 0 0 = 0 ∨ K 0 1 = 0
    · rw [show ke_f K R = 9 from if_pos hz] at h0
      omega
    · have hm : ke_m K R < K 0 0 := Nat.mod_lt _ (by omega)
      have hw : ke_w K R < K 0 1 := Nat.mod_lt _ (by omega)
      have ho : ke_o K R < K 0 0 := Nat.mod_lt _ (by omega)
      have hM := h.me
      have hW := h.wi
      by_cases h5 : R % 8 < 5
      · rw [show ke_f K R = kv_driF K (nI (ke_m K R)) (nI (ke_w K R)) (nI (1 + R / 1024 % 3)) from (if_neg hz).trans (if_pos h5)] at h0
        rw [show ke_K K R = kv_dri K (ke_m K R) (ke_w K R) (1 + R / 1024 % 3) from if_pos h5]
        have q := kv_dri0 (by omega) (by omega) (by omega) h0
        exact cl_dri h q.1 q.2.1 ⟨q.2.2.1, q.2.2.2.2⟩
      · by_cases h6 : R % 8 = 5
        · rw [show ke_f K R = kv_corF K (nI (ke_m K R)) (nI (ke_w K R)) from (if_neg hz).trans ((if_neg h5).trans (if_pos h6))] at h0
          rw [show ke_K K R = kv_cor K (ke_m K R) (ke_w K R) from (if_neg h5).trans (if_pos h6)]
          have q := kv_cor0 (by omega) (by omega) h0
          exact cl_cor h q.1 q.2.1 q.2.2
        · rw [show ke_f K R = kv_gifF K (nI (ke_m K R)) (nI (ke_o K R)) (nI (ke_w K R)) (nI 1) from (if_neg hz).trans ((if_neg h5).trans (if_neg h6))] at h0
          rw [show ke_K K R = kv_han K (ke_m K R) (ke_o K R) (ke_w K R) 1 from (if_neg h5).trans (if_neg h6)]
          have q := kv_gif0 (by omega) (by omega) (by omega) (by omega) h0
          exact cl_han h q.1 q.2.1 q.2.2.1 q.2.2.2.1 ⟨q.2.2.2.2.1, q.2.2.2.2.2.2⟩
  · rw [if_neg h0]; exact h
end CEU
