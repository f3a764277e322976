theorem kx_sh_lt {K : ce_V} {w c : Nat} : ∀ {n : Nat}, (kx_sh K w n).1 = some c → c < n
  | 0, h => by cases h
  | n + 1, h => by
    unfold kx_sh at h
    split at h
    · cases h; omega
    · have := kx_sh_lt h
      omega
set_option maxHeartbeats 2000000 in
set_option maxRecDepth 20000 in
theorem kp_io {a : Nat} {S : ks_S} (iv : kl_iv S) {Q : Option Value → ce_S → ce_D → Prop} {X : String → ce_S → ce_D → Prop} {σn : ce_S} {gn : ce_D} {zz wz cz dz fz rz nb : Nat} (hwz : wz < sK S 0 1) (hnb : nb ≤ 70) (h5 : sK S 5 wz = 0) (kk : ∀ (kz : Nat) (σ : ce_S) (g : ce_D) (s0 s1 s2 gz : Nat), kz9 a S σn gn zz s0 s1 s2 σ g → s0 = ce_sum (fun mz => sK S 7 (mz * 6 + wz)) (sK S 0 0) → s1 = ce_sum (fun mz => sK S 8 (mz * 6 + wz)) (sK S 0 0) → s2 = ce_sum (fun mz => sK S 9 (mz * 6 + wz)) (sK S 0 0) → gz = ce_sum (fun mz => kv_all (sK S) wz 8 (mz * 6 + wz)) (sK S 0 0) → kz ≤ nb + 6 → ce_WP (ce_rl 1 100) mL_kept (kz) (6 * (kz)) 249 [some (.ref (a)), some (.int (nI (sK S 0 0))), some (.int (nI (sK S 0 1))), some (.int (nI (sK S 0 2))), some (.int (nI (1))), some (.long (lN (cz))), none, some (.long (lN (dz))), none, some (.long (lN (fz))), none, some (.long (lN (rz))), none, some (.int (nI (wz))), some (.ref (zz)), some (.long (lN (gz))), none, some (.int (nI (1))), none, none, none, none, none, none, none, none] [] σ g Q X) : ∀ (n9 iz kz : Nat) (σ : ce_S) (g : ce_D) (s0 s1 s2 gz : Nat), kz9 a S σn gn zz s0 s1 s2 σ g → sK S 0 0 - iz < n9 → iz ≤ sK S 0 0 → s0 = ce_sum (fun mz => sK S 7 (mz * 6 + wz)) (iz) → s1 = ce_sum (fun mz => sK S 8 (mz * 6 + wz)) (iz) → s2 = ce_sum (fun mz => sK S 9 (mz * 6 + wz)) (iz) → gz = ce_sum (fun mz => kv_all (sK S) wz 8 (mz * 6 + wz)) (iz) → kz ≤ nb + iz → ce_WP (ce_rl 1 100) mL_kept (kz) (6 * (kz)) 120 [some (.ref (a)), some (.int (nI (sK S 0 0))), some (.int (nI (sK S 0 1))), some (.int (nI (sK S 0 2))), some (.int (nI (1))), some (.long (lN (cz))), none, some (.long (lN (dz))), none, some (.long (lN (fz))), none, some (.long (lN (rz))), none, some (.int (nI (wz))), some (.ref (zz)), some (.long (lN (gz))), none, some (.int (nI (1))), some (.int (nI (iz))), none, none, none, none, none, none, none] [] σ g Q X := by
  have b9 := iv.ok.1.b
  intro n9
  induction n9 with
  | zero =>
    intros
    omega
  | succ n9 ih =>
    intro iz kz σ g s0 s1 s2 gz hz hm hi e0 e1 e2 eg hkz
    refine ce_iload dL_kept_120 rfl ?_
    refine ce_iload_n dL_kept_122 rfl ?_
    refine ce_icmp_geN (tgt := 249) dL_kept_123 (by decide) rfl rfl (by omega) (by omega) (fun c_123 => ?_) (fun c_123 => ?_)
    · have e9 : iz = sK S 0 0 := by omega
      subst e9
      refine ce_drop (L' := [some (.ref (a)), some (.int (nI (sK S 0 0))), some (.int (nI (sK S 0 1))), some (.int (nI (sK S 0 2))), some (.int (nI (1))), some (.long (lN (cz))), none, some (.long (lN (dz))), none, some (.long (lN (fz))), none, some (.long (lN (rz))), none, some (.int (nI (wz))), some (.ref (zz)), some (.long (lN (gz))), none, some (.int (nI (1))), none, none, none, none, none, none, none, none]) (ce_le_s rfl (ce_le_s rfl (ce_le_s rfl (ce_le_s rfl (ce_le_s rfl (ce_le_s rfl (ce_le_n (ce_le_s rfl (ce_le_n (ce_le_s rfl (ce_le_n (ce_le_s rfl (ce_le_n (ce_le_s rfl (ce_le_s rfl (ce_le_s rfl (ce_le_n (ce_le_s rfl (ce_le_n (ce_le_n (ce_le_n (ce_le_n (ce_le_n (ce_le_n (ce_le_n (ce_le_n ce_le_e)))))))))))))))))))))))))) ?_
      exact kk _ _ _ _ _ _ _ hz e0 e1 e2 eg (by omega)
    · refine ce_iload dL_kept_126 rfl ?_
      refine ce_if_eqN (tgt := 249) dL_kept_128 (by decide) rfl (by omega) (fun c_128 => ?_) (fun c_128 => ?_)
      · omega
      · have hle := kv_all_le iv.ok.1 (w := wz) (by omega) h5 iz
        have hod := iv.ok.1.od (iz * 6 + wz)
        refine ce_iconst (v := nI (0)) dL_kept_131 (by decide) ?_
        refine ce_istore dL_kept_132 (Nat.le_of_ble_eq_true rfl) rfl ?_
        refine ce_iload dL_kept_134 rfl ?_
        refine ce_iconst (v := nI (3)) dL_kept_136 (by decide) ?_
        refine ce_icmp_geN (tgt := 164) dL_kept_137 (by decide) rfl rfl (by omega) (by omega) (fun c_137 => ?_) (fun c_137 => ?_)
        · omega
        · refine ce_aload dL_kept_140 rfl ?_
          refine ce_iload dL_kept_142 rfl ?_
          refine ce_dup2 dL_kept_144 rfl rfl ?_
          refine ce_laldv dL_kept_145 (hz).k rfl (hz).l (by decide) (by decide) (hz).v0 ?_
          refine ce_aload_n dL_kept_146 rfl ?_
          refine ce_iload dL_kept_147 rfl ?_
          refine ce_iload dL_kept_149 rfl ?_
          refine ce_iload dL_kept_151 rfl ?_
          refine kc_Wj dL_kept_153 hL_has kRL_122 (q_has0 (hz).w iv (m := iz) (w := wz) (by omega) (by omega)) rfl rfl (by decide) (Nat.le_of_ble_eq_true rfl) rfl (by show _ ≤ 100; omega) ?_
          refine ce_ladd (z := lN (s0 + (sK S 7 (iz * 6 + wz)))) dL_kept_156 (lN_add _ _) ?_
          refine ce_last (n := 0) (len := 3) dL_kept_157 (hz).k rfl (hz).l (by decide) (by decide) ?_
          have hz1 := (hz).p0 (v := s0 + (sK S 7 (iz * 6 + wz)))
          generalize ce_upL σ (zz) 0 (lN (s0 + (sK S 7 (iz * 6 + wz)))) = sz2 at hz1 ⊢
          refine ce_iinc (v := nI (1)) dL_kept_158 rfl (ce_inc1 _) (Nat.le_of_ble_eq_true rfl) rfl ?_
          refine ce_goto (tgt := 134) dL_kept_161 (by decide) ?_
          refine ce_iload dL_kept_134 rfl ?_
          refine ce_iconst (v := nI (3)) dL_kept_136 (by decide) ?_
          refine ce_icmp_geN (tgt := 164) dL_kept_137 (by decide) rfl rfl (by omega) (by omega) (fun c_137 => ?_) (fun c_137 => ?_)
          · omega
          · refine ce_aload dL_kept_140 rfl ?_
            refine ce_iload dL_kept_142 rfl ?_
            refine ce_dup2 dL_kept_144 rfl rfl ?_
            refine ce_laldv dL_kept_145 (hz1).k rfl (hz1).l (by decide) (by decide) (hz1).v1 ?_
            refine ce_aload_n dL_kept_146 rfl ?_
            refine ce_iload dL_kept_147 rfl ?_
            refine ce_iload dL_kept_149 rfl ?_
            refine ce_iload dL_kept_151 rfl ?_
            refine kc_Wj dL_kept_153 hL_has kRL_122 (q_has1 (hz1).w iv (m := iz) (w := wz) (by omega) (by omega)) rfl rfl (by decide) (Nat.le_of_ble_eq_true rfl) rfl (by show _ ≤ 100; omega) ?_
            refine ce_ladd (z := lN (s1 + (sK S 8 (iz * 6 + wz)))) dL_kept_156 (lN_add _ _) ?_
            refine ce_last (n := 1) (len := 3) dL_kept_157 (hz1).k rfl (hz1).l (by decide) (by decide) ?_
            have hz3 := (hz1).p1 (v := s1 + (sK S 8 (iz * 6 + wz)))
            generalize ce_upL sz2 (zz) 1 (lN (s1 + (sK S 8 (iz * 6 + wz)))) = sz4 at hz3 ⊢
            refine ce_iinc (v := nI (2)) dL_kept_158 rfl (ce_inc1 _) (Nat.le_of_ble_eq_true rfl) rfl ?_
            refine ce_goto (tgt := 134) dL_kept_161 (by decide) ?_
            refine ce_iload dL_kept_134 rfl ?_
            refine ce_iconst (v := nI (3)) dL_kept_136 (by decide) ?_
            refine ce_icmp_geN (tgt := 164) dL_kept_137 (by decide) rfl rfl (by omega) (by omega) (fun c_137 => ?_) (fun c_137 => ?_)
            · omega
            · refine ce_aload dL_kept_140 rfl ?_
              refine ce_iload dL_kept_142 rfl ?_
              refine ce_dup2 dL_kept_144 rfl rfl ?_
              refine ce_laldv dL_kept_145 (hz3).k rfl (hz3).l (by decide) (by decide) (hz3).v2 ?_
              refine ce_aload_n dL_kept_146 rfl ?_
              refine ce_iload dL_kept_147 rfl ?_
              refine ce_iload dL_kept_149 rfl ?_
              refine ce_iload dL_kept_151 rfl ?_
              refine kc_Wj dL_kept_153 hL_has kRL_122 (q_has2 (hz3).w iv (m := iz) (w := wz) (by omega) (by omega)) rfl rfl (by decide) (Nat.le_of_ble_eq_true rfl) rfl (by show _ ≤ 100; omega) ?_
              refine ce_ladd (z := lN (s2 + (sK S 9 (iz * 6 + wz)))) dL_kept_156 (lN_add _ _) ?_
              refine ce_last (n := 2) (len := 3) dL_kept_157 (hz3).k rfl (hz3).l (by decide) (by decide) ?_
              have hz5 := (hz3).p2 (v := s2 + (sK S 9 (iz * 6 + wz)))
              generalize ce_upL sz4 (zz) 2 (lN (s2 + (sK S 9 (iz * 6 + wz)))) = sz6 at hz5 ⊢
              refine ce_iinc (v := nI (3)) dL_kept_158 rfl (ce_inc1 _) (Nat.le_of_ble_eq_true rfl) rfl ?_
              refine ce_goto (tgt := 134) dL_kept_161 (by decide) ?_
              refine ce_iload dL_kept_134 rfl ?_
              refine ce_iconst (v := nI (3)) dL_kept_136 (by decide) ?_
              refine ce_icmp_geN (tgt := 164) dL_kept_137 (by decide) rfl rfl (by omega) (by omega) (fun c_137 => ?_) (fun c_137 => ?_)
              · refine ce_aload_n dL_kept_164 rfl ?_
                refine ce_iload dL_kept_165 rfl ?_
                refine ce_iload dL_kept_167 rfl ?_
                refine kc_Wk dL_kept_169 hL_wouldGet kRL_158 (q_wg (hz5).w iv (m := iz) (w := wz) (by omega) (by omega) h5) rfl rfl (by decide) (Nat.le_of_ble_eq_true rfl) rfl (by show _ ≤ 100; omega) (fun cs1 cg1 hcg1 => ?_)
                have hz7 := (hz5).call hcg1
                refine ce_lstore dL_kept_172 (Nat.le_of_ble_eq_true rfl) rfl ?_
                refine ce_lload dL_kept_174 rfl ?_
                refine ce_iload dL_kept_176 rfl ?_
                refine ce_if_eqN (tgt := 186) dL_kept_178 (by decide) rfl (by omega) (fun c_178 => ?_) (fun c_178 => ?_)
                · omega
                · refine ce_lload dL_kept_181 rfl ?_
                  refine ce_goto (tgt := 187) dL_kept_183 (by decide) ?_
                  refine ce_ladd (z := lN (gz + (kv_all (sK S) (wz) 8 (iz * 6 + wz)))) dL_kept_187 (lN_add _ _) ?_
                  refine ce_lstore dL_kept_188 (Nat.le_of_ble_eq_true rfl) rfl ?_
                  refine ce_iload dL_kept_190 rfl ?_
                  refine ce_if_eqN (tgt := 213) dL_kept_192 (by decide) rfl (by omega) (fun c_192 => ?_) (fun c_192 => ?_)
                  · omega
                  · refine ce_lload dL_kept_195 rfl ?_
                    refine ce_lconst (v := lN 0) dL_kept_197 (by decide) ?_
                    refine ce_aload_n dL_kept_198 rfl ?_
                    refine ce_iload dL_kept_199 rfl ?_
                    refine ce_iload dL_kept_201 rfl ?_
                    refine ce_iconst (v := nI (0)) dL_kept_203 (by decide) ?_
                    refine kc_Wj dL_kept_204 hL_has kRL_122 (q_has0 (hz7).w iv (m := iz) (w := wz) (by omega) (by omega)) rfl rfl (by decide) (Nat.le_of_ble_eq_true rfl) rfl (by show _ ≤ 100; omega) ?_
                    refine kc_Sp dL_kept_207 hL_in kRL_185 (m_L_in (kv_all (sK S) (wz) 8 (iz * 6 + wz)) (0) (sK S 7 (iz * 6 + wz)) (by omega) (by omega) (by omega)) rfl rfl (by decide) (Nat.le_of_ble_eq_true rfl) rfl (by show _ ≤ 100; omega) ?_
                    refine ce_goto (tgt := 241) dL_kept_210 (by decide) ?_
                    refine ce_istore dL_kept_241 (Nat.le_of_ble_eq_true rfl) rfl ?_
                    refine ce_iinc (v := nI (iz + 1)) dL_kept_243 rfl (ce_inc1 _) (Nat.le_of_ble_eq_true rfl) rfl ?_
                    refine ce_goto (tgt := 120) dL_kept_246 (by decide) ?_
                    refine ce_drop (L' := [some (.ref (a)), some (.int (nI (sK S 0 0))), some (.int (nI (sK S 0 1))), some (.int (nI (sK S 0 2))), some (.int (nI (1))), some (.long (lN (cz))), none, some (.long (lN (dz))), none, some (.long (lN (fz))), none, some (.long (lN (rz))), none, some (.int (nI (wz))), some (.ref (zz)), some (.long (lN (gz + (kv_all (sK S) (wz) 8 (iz * 6 + wz))))), none, some (.int (nI (1))), some (.int (nI (iz + 1))), none, none, none, none, none, none, none]) (ce_le_s rfl (ce_le_s rfl (ce_le_s rfl (ce_le_s rfl (ce_le_s rfl (ce_le_s rfl (ce_le_n (ce_le_s rfl (ce_le_n (ce_le_s rfl (ce_le_n (ce_le_s rfl (ce_le_n (ce_le_s rfl (ce_le_s rfl (ce_le_s rfl (ce_le_n (ce_le_s rfl (ce_le_s rfl (ce_le_n (ce_le_n (ce_le_n (ce_le_n (ce_le_n (ce_le_n (ce_le_n ce_le_e)))))))))))))))))))))))))) ?_
                    exact ih (iz + 1) _ _ _ _ _ _ _ hz7 (by omega) (by omega) (by show _ = ce_sum (fun mz => sK S 7 (mz * 6 + wz)) (iz) + sK S 7 (iz * 6 + wz); omega) (by show _ = ce_sum (fun mz => sK S 8 (mz * 6 + wz)) (iz) + sK S 8 (iz * 6 + wz); omega) (by show _ = ce_sum (fun mz => sK S 9 (mz * 6 + wz)) (iz) + sK S 9 (iz * 6 + wz); omega) (by show _ = ce_sum (fun mz => kv_all (sK S) wz 8 (mz * 6 + wz)) iz + kv_all (sK S) wz 8 (iz * 6 + wz); omega) (by omega)
              · omega
set_option maxHeartbeats 2000000 in
set_option maxRecDepth 20000 in
theorem kp_in {a : Nat} {S : ks_S} (iv : kl_iv S) {Q : Option Value → ce_S → ce_D → Prop} {X : String → ce_S → ce_D → Prop} {σn : ce_S} {gn : ce_D} {zz wz cz dz fz rz nb : Nat} (hwz : wz < sK S 0 1) (hnb : nb ≤ 70) (h5 : sK S 5 wz ≠ 0) (kk : ∀ (kz : Nat) (σ : ce_S) (g : ce_D) (s0 s1 s2 gz : Nat), kz9 a S σn gn zz s0 s1 s2 σ g → s0 = ce_sum (fun mz => sK S 7 (mz * 6 + wz)) (sK S 0 0) → s1 = ce_sum (fun mz => sK S 8 (mz * 6 + wz)) (sK S 0 0) → s2 = ce_sum (fun mz => sK S 9 (mz * 6 + wz)) (sK S 0 0) → gz = 0 → kz ≤ nb + 6 → ce_WP (ce_rl 1 100) mL_kept (kz) (6 * (kz)) 249 [some (.ref (a)), some (.int (nI (sK S 0 0))), some (.int (nI (sK S 0 1))), some (.int (nI (sK S 0 2))), some (.int (nI (1))), some (.long (lN (cz))), none, some (.long (lN (dz))), none, some (.long (lN (fz))), none, some (.long (lN (rz))), none, some (.int (nI (wz))), some (.ref (zz)), some (.long (lN (gz))), none, some (.int (nI (0))), none, none, none, none, none, none, none, none] [] σ g Q X) : ∀ (n9 iz kz : Nat) (σ : ce_S) (g : ce_D) (s0 s1 s2 gz : Nat), kz9 a S σn gn zz s0 s1 s2 σ g → sK S 0 0 - iz < n9 → iz ≤ sK S 0 0 → s0 = ce_sum (fun mz => sK S 7 (mz * 6 + wz)) (iz) → s1 = ce_sum (fun mz => sK S 8 (mz * 6 + wz)) (iz) → s2 = ce_sum (fun mz => sK S 9 (mz * 6 + wz)) (iz) → gz = 0 → kz ≤ nb + iz → ce_WP (ce_rl 1 100) mL_kept (kz) (6 * (kz)) 120 [some (.ref (a)), some (.int (nI (sK S 0 0))), some (.int (nI (sK S 0 1))), some (.int (nI (sK S 0 2))), some (.int (nI (1))), some (.long (lN (cz))), none, some (.long (lN (dz))), none, some (.long (lN (fz))), none, some (.long (lN (rz))), none, some (.int (nI (wz))), some (.ref (zz)), some (.long (lN (gz))), none, some (.int (nI (0))), some (.int (nI (iz))), none, none, none, none, none, none, none] [] σ g Q X := by
  have b9 := iv.ok.1.b
  intro n9
  induction n9 with
  | zero =>
    intros
    omega
  | succ n9 ih =>
    intro iz kz σ g s0 s1 s2 gz hz hm hi e0 e1 e2 eg hkz
    refine ce_iload dL_kept_120 rfl ?_
    refine ce_iload_n dL_kept_122 rfl ?_
    refine ce_icmp_geN (tgt := 249) dL_kept_123 (by decide) rfl rfl (by omega) (by omega) (fun c_123 => ?_) (fun c_123 => ?_)
    · have e9 : iz = sK S 0 0 := by omega
      subst e9
      refine ce_drop (L' := [some (.ref (a)), some (.int (nI (sK S 0 0))), some (.int (nI (sK S 0 1))), some (.int (nI (sK S 0 2))), some (.int (nI (1))), some (.long (lN (cz))), none, some (.long (lN (dz))), none, some (.long (lN (fz))), none, some (.long (lN (rz))), none, some (.int (nI (wz))), some (.ref (zz)), some (.long (lN (gz))), none, some (.int (nI (0))), none, none, none, none, none, none, none, none]) (ce_le_s rfl (ce_le_s rfl (ce_le_s rfl (ce_le_s rfl (ce_le_s rfl (ce_le_s rfl (ce_le_n (ce_le_s rfl (ce_le_n (ce_le_s rfl (ce_le_n (ce_le_s rfl (ce_le_n (ce_le_s rfl (ce_le_s rfl (ce_le_s rfl (ce_le_n (ce_le_s rfl (ce_le_n (ce_le_n (ce_le_n (ce_le_n (ce_le_n (ce_le_n (ce_le_n (ce_le_n ce_le_e)))))))))))))))))))))))))) ?_
      exact kk _ _ _ _ _ _ _ hz e0 e1 e2 eg (by omega)
    · refine ce_iload dL_kept_126 rfl ?_
      refine ce_if_eqN (tgt := 249) dL_kept_128 (by decide) rfl (by omega) (fun c_128 => ?_) (fun c_128 => ?_)
      · omega
      · have hor := iv.kj.1.1.1 wz (by omega) h5 iz (by omega)
        have hod := iv.ok.1.od (iz * 6 + wz)
        refine ce_iconst (v := nI (0)) dL_kept_131 (by decide) ?_
        refine ce_istore dL_kept_132 (Nat.le_of_ble_eq_true rfl) rfl ?_
        refine ce_iload dL_kept_134 rfl ?_
        refine ce_iconst (v := nI (3)) dL_kept_136 (by decide) ?_
        refine ce_icmp_geN (tgt := 164) dL_kept_137 (by decide) rfl rfl (by omega) (by omega) (fun c_137 => ?_) (fun c_137 => ?_)
        · omega
        · refine ce_aload dL_kept_140 rfl ?_
          refine ce_iload dL_kept_142 rfl ?_
          refine ce_dup2 dL_kept_144 rfl rfl ?_
          refine ce_laldv dL_kept_145 (hz).k rfl (hz).l (by decide) (by decide) (hz).v0 ?_
          refine ce_aload_n dL_kept_146 rfl ?_
          refine ce_iload dL_kept_147 rfl ?_
          refine ce_iload dL_kept_149 rfl ?_
          refine ce_iload dL_kept_151 rfl ?_
          refine kc_Wj dL_kept_153 hL_has kRL_122 (q_has0 (hz).w iv (m := iz) (w := wz) (by omega) (by omega)) rfl rfl (by decide) (Nat.le_of_ble_eq_true rfl) rfl (by show _ ≤ 100; omega) ?_
          refine ce_ladd (z := lN (s0 + (sK S 7 (iz * 6 + wz)))) dL_kept_156 (lN_add _ _) ?_
          refine ce_last (n := 0) (len := 3) dL_kept_157 (hz).k rfl (hz).l (by decide) (by decide) ?_
          have hz8 := (hz).p0 (v := s0 + (sK S 7 (iz * 6 + wz)))
          generalize ce_upL σ (zz) 0 (lN (s0 + (sK S 7 (iz * 6 + wz)))) = sz9 at hz8 ⊢
          refine ce_iinc (v := nI (1)) dL_kept_158 rfl (ce_inc1 _) (Nat.le_of_ble_eq_true rfl) rfl ?_
          refine ce_goto (tgt := 134) dL_kept_161 (by decide) ?_
          refine ce_iload dL_kept_134 rfl ?_
          refine ce_iconst (v := nI (3)) dL_kept_136 (by decide) ?_
          refine ce_icmp_geN (tgt := 164) dL_kept_137 (by decide) rfl rfl (by omega) (by omega) (fun c_137 => ?_) (fun c_137 => ?_)
          · omega
          · refine ce_aload dL_kept_140 rfl ?_
            refine ce_iload dL_kept_142 rfl ?_
            refine ce_dup2 dL_kept_144 rfl rfl ?_
            refine ce_laldv dL_kept_145 (hz8).k rfl (hz8).l (by decide) (by decide) (hz8).v1 ?_
            refine ce_aload_n dL_kept_146 rfl ?_
            refine ce_iload dL_kept_147 rfl ?_
            refine ce_iload dL_kept_149 rfl ?_
            refine ce_iload dL_kept_151 rfl ?_
            refine kc_Wj dL_kept_153 hL_has kRL_122 (q_has1 (hz8).w iv (m := iz) (w := wz) (by omega) (by omega)) rfl rfl (by decide) (Nat.le_of_ble_eq_true rfl) rfl (by show _ ≤ 100; omega) ?_
            refine ce_ladd (z := lN (s1 + (sK S 8 (iz * 6 + wz)))) dL_kept_156 (lN_add _ _) ?_
            refine ce_last (n := 1) (len := 3) dL_kept_157 (hz8).k rfl (hz8).l (by decide) (by decide) ?_
            have hz10 := (hz8).p1 (v := s1 + (sK S 8 (iz * 6 + wz)))
            generalize ce_upL sz9 (zz) 1 (lN (s1 + (sK S 8 (iz * 6 + wz)))) = sz11 at hz10 ⊢
            refine ce_iinc (v := nI (2)) dL_kept_158 rfl (ce_inc1 _) (Nat.le_of_ble_eq_true rfl) rfl ?_
            refine ce_goto (tgt := 134) dL_kept_161 (by decide) ?_
            refine ce_iload dL_kept_134 rfl ?_
            refine ce_iconst (v := nI (3)) dL_kept_136 (by decide) ?_
            refine ce_icmp_geN (tgt := 164) dL_kept_137 (by decide) rfl rfl (by omega) (by omega) (fun c_137 => ?_) (fun c_137 => ?_)
            · omega
            · refine ce_aload dL_kept_140 rfl ?_
              refine ce_iload dL_kept_142 rfl ?_
              refine ce_dup2 dL_kept_144 rfl rfl ?_
              refine ce_laldv dL_kept_145 (hz10).k rfl (hz10).l (by decide) (by decide) (hz10).v2 ?_
              refine ce_aload_n dL_kept_146 rfl ?_
              refine ce_iload dL_kept_147 rfl ?_
              refine ce_iload dL_kept_149 rfl ?_
              refine ce_iload dL_kept_151 rfl ?_
              refine kc_Wj dL_kept_153 hL_has kRL_122 (q_has2 (hz10).w iv (m := iz) (w := wz) (by omega) (by omega)) rfl rfl (by decide) (Nat.le_of_ble_eq_true rfl) rfl (by show _ ≤ 100; omega) ?_
              refine ce_ladd (z := lN (s2 + (sK S 9 (iz * 6 + wz)))) dL_kept_156 (lN_add _ _) ?_
              refine ce_last (n := 2) (len := 3) dL_kept_157 (hz10).k rfl (hz10).l (by decide) (by decide) ?_
              have hz12 := (hz10).p2 (v := s2 + (sK S 9 (iz * 6 + wz)))
              generalize ce_upL sz11 (zz) 2 (lN (s2 + (sK S 9 (iz * 6 + wz)))) = sz13 at hz12 ⊢
              refine ce_iinc (v := nI (3)) dL_kept_158 rfl (ce_inc1 _) (Nat.le_of_ble_eq_true rfl) rfl ?_
              refine ce_goto (tgt := 134) dL_kept_161 (by decide) ?_
              refine ce_iload dL_kept_134 rfl ?_
              refine ce_iconst (v := nI (3)) dL_kept_136 (by decide) ?_
              refine ce_icmp_geN (tgt := 164) dL_kept_137 (by decide) rfl rfl (by omega) (by omega) (fun c_137 => ?_) (fun c_137 => ?_)
              · refine ce_aload_n dL_kept_164 rfl ?_
                refine ce_iload dL_kept_165 rfl ?_
                refine ce_iload dL_kept_167 rfl ?_
                refine kc_Wj dL_kept_169 hL_wouldGet kRL_158 (q_wg0 (hz12).w iv (m := iz) (w := wz) (by omega) (by omega) h5) rfl rfl (by decide) (Nat.le_of_ble_eq_true rfl) rfl (by show _ ≤ 100; omega) ?_
                refine ce_lstore dL_kept_172 (Nat.le_of_ble_eq_true rfl) rfl ?_
                refine ce_lload dL_kept_174 rfl ?_
                refine ce_iload dL_kept_176 rfl ?_
                refine ce_if_eqN (tgt := 186) dL_kept_178 (by decide) rfl (by omega) (fun c_178 => ?_) (fun c_178 => ?_)
                · refine ce_lconst (v := lN 0) dL_kept_186 (by decide) ?_
                  refine ce_ladd (z := lN (gz + (0))) dL_kept_187 (lN_add _ _) ?_
                  refine ce_lstore dL_kept_188 (Nat.le_of_ble_eq_true rfl) rfl ?_
                  refine ce_iload dL_kept_190 rfl ?_
                  refine ce_if_eqN (tgt := 213) dL_kept_192 (by decide) rfl (by omega) (fun c_192 => ?_) (fun c_192 => ?_)
                  · refine ce_lload dL_kept_213 rfl ?_
                    refine ce_ldc2 dL_kept_215 kRL_160 ?_
                    refine ce_lcmp (z := lg_cmp ((-99999 : Int64)) ((-99999 : Int64))) dL_kept_218 rfl ?_
                    refine ce_if_neC (tgt := 240) dL_kept_219 (by decide) rfl (fun c_219 => ?_) (fun c_219 => ?_)
                    · exact absurd rfl c_219
                    · refine ce_aload_n dL_kept_222 rfl ?_
                      refine ce_iload dL_kept_223 rfl ?_
                      refine ce_iload dL_kept_225 rfl ?_
                      refine ce_iconst (v := nI (0)) dL_kept_227 (by decide) ?_
                      refine kc_Wj dL_kept_228 hL_has kRL_122 (q_has0 (hz12).w iv (m := iz) (w := wz) (by omega) (by omega)) rfl rfl (by decide) (Nat.le_of_ble_eq_true rfl) rfl (by show _ ≤ 100; omega) ?_
                      refine ce_lconst (v := lN 0) dL_kept_231 (by decide) ?_
                      refine ce_lcmp (z := lg_cmp (lN (sK S 7 (iz * 6 + wz))) (lN (0))) dL_kept_232 rfl ?_
                      refine ce_if_neL (a := sK S 7 (iz * 6 + wz)) (b := 0) (tgt := 240) dL_kept_233 (by decide) rfl (by omega) (by omega) (fun c_233 => ?_) (fun c_233 => ?_)
                      · omega
                      · refine ce_iconst (v := nI (1)) dL_kept_236 (by decide) ?_
                        refine ce_goto (tgt := 241) dL_kept_237 (by decide) ?_
                        refine ce_istore dL_kept_241 (Nat.le_of_ble_eq_true rfl) rfl ?_
                        refine ce_iinc (v := nI (iz + 1)) dL_kept_243 rfl (ce_inc1 _) (Nat.le_of_ble_eq_true rfl) rfl ?_
                        refine ce_goto (tgt := 120) dL_kept_246 (by decide) ?_
                        refine ce_drop (L' := [some (.ref (a)), some (.int (nI (sK S 0 0))), some (.int (nI (sK S 0 1))), some (.int (nI (sK S 0 2))), some (.int (nI (1))), some (.long (lN (cz))), none, some (.long (lN (dz))), none, some (.long (lN (fz))), none, some (.long (lN (rz))), none, some (.int (nI (wz))), some (.ref (zz)), some (.long (lN (gz + (0)))), none, some (.int (nI (0))), some (.int (nI (iz + 1))), none, none, none, none, none, none, none]) (ce_le_s rfl (ce_le_s rfl (ce_le_s rfl (ce_le_s rfl (ce_le_s rfl (ce_le_s rfl (ce_le_n (ce_le_s rfl (ce_le_n (ce_le_s rfl (ce_le_n (ce_le_s rfl (ce_le_n (ce_le_s rfl (ce_le_s rfl (ce_le_s rfl (ce_le_n (ce_le_s rfl (ce_le_s rfl (ce_le_n (ce_le_n (ce_le_n (ce_le_n (ce_le_n (ce_le_n (ce_le_n ce_le_e)))))))))))))))))))))))))) ?_
                        exact ih (iz + 1) _ _ _ _ _ _ _ hz12 (by omega) (by omega) (by show _ = ce_sum (fun mz => sK S 7 (mz * 6 + wz)) (iz) + sK S 7 (iz * 6 + wz); omega) (by show _ = ce_sum (fun mz => sK S 8 (mz * 6 + wz)) (iz) + sK S 8 (iz * 6 + wz); omega) (by show _ = ce_sum (fun mz => sK S 9 (mz * 6 + wz)) (iz) + sK S 9 (iz * 6 + wz); omega) (by omega) (by omega)
                  · omega
                · omega
              · omega
set_option maxHeartbeats 2000000 in
set_option maxRecDepth 20000 in
theorem kp_b {a : Nat} {S : ks_S} (iv : kl_iv S) {Q : Option Value → ce_S → ce_D → Prop} {X : String → ce_S → ce_D → Prop} {σn : ce_S} {gn : ce_D} {zz wz cz dz fz rz kz gz oz s0 s1 s2 : Nat} {σ : ce_S} {g : ce_D} (hwz : wz < sK S 0 1) (hkz : kz ≤ 100) (hz : kz9 a S σn gn zz s0 s1 s2 σ g) (kk : ∀ (tz uz : Nat), tz = ce_sum (kv_bw (sK S) wz) (sK S 0 2) → uz = ce_sum (kv_room (sK S) wz) (sK S 0 2) → ce_WP (ce_rl 1 100) mL_kept (kz) (6 * (kz)) 352 [some (.ref (a)), some (.int (nI (sK S 0 0))), some (.int (nI (sK S 0 1))), some (.int (nI (sK S 0 2))), some (.int (nI (1))), some (.long (lN (cz))), none, some (.long (lN (dz))), none, some (.long (lN (fz))), none, some (.long (lN (rz))), none, some (.int (nI (wz))), some (.ref (zz)), some (.long (lN (gz))), none, some (.int (nI (oz))), some (.long (lN (tz))), none, some (.long (lN (uz))), none, none, none, none, none] [] σ g Q X) : ∀ (n9 iz tz uz : Nat), sK S 0 2 - iz < n9 → iz ≤ sK S 0 2 → tz = ce_sum (kv_bw (sK S) wz) iz → uz = ce_sum (kv_room (sK S) wz) iz → ce_WP (ce_rl 1 100) mL_kept (kz) (6 * (kz)) 258 [some (.ref (a)), some (.int (nI (sK S 0 0))), some (.int (nI (sK S 0 1))), some (.int (nI (sK S 0 2))), some (.int (nI (1))), some (.long (lN (cz))), none, some (.long (lN (dz))), none, some (.long (lN (fz))), none, some (.long (lN (rz))), none, some (.int (nI (wz))), some (.ref (zz)), some (.long (lN (gz))), none, some (.int (nI (oz))), some (.long (lN (tz))), none, some (.long (lN (uz))), none, some (.int (nI (iz))), none, none, none] [] σ g Q X := by
  have b9 := iv.ok.1.b
  intro n9
  induction n9 with
  | zero =>
    intros
    omega
  | succ n9 ih =>
    intro iz tz uz hm hi et eu
    refine ce_iload dL_kept_258 rfl ?_
    refine ce_iload_n dL_kept_260 rfl ?_
    refine ce_icmp_geN (tgt := 352) dL_kept_261 (by decide) rfl rfl (by omega) (by omega) (fun c_261 => ?_) (fun c_261 => ?_)
    · have e9 : iz = sK S 0 2 := by omega
      subst e9
      refine ce_drop (L' := [some (.ref (a)), some (.int (nI (sK S 0 0))), some (.int (nI (sK S 0 1))), some (.int (nI (sK S 0 2))), some (.int (nI (1))), some (.long (lN (cz))), none, some (.long (lN (dz))), none, some (.long (lN (fz))), none, some (.long (lN (rz))), none, some (.int (nI (wz))), some (.ref (zz)), some (.long (lN (gz))), none, some (.int (nI (oz))), some (.long (lN (tz))), none, some (.long (lN (uz))), none, none, none, none, none]) (ce_le_s rfl (ce_le_s rfl (ce_le_s rfl (ce_le_s rfl (ce_le_s rfl (ce_le_s rfl (ce_le_n (ce_le_s rfl (ce_le_n (ce_le_s rfl (ce_le_n (ce_le_s rfl (ce_le_n (ce_le_s rfl (ce_le_s rfl (ce_le_s rfl (ce_le_n (ce_le_s rfl (ce_le_s rfl (ce_le_n (ce_le_s rfl (ce_le_n (ce_le_n (ce_le_n (ce_le_n (ce_le_n ce_le_e)))))))))))))))))))))))))) ?_
      exact kk _ _ et eu
    · have hrk := iv.ok.1.rk.2.1 iz
      have hr13 := iv.ok.1.rk.2.2.2.1 iz
      rcases Nat.eq_zero_or_pos (sK S 12 iz) with hA | hA
      · have hbw : kv_bw (sK S) wz iz = 0 := by unfold kv_bw; split <;> omega
        have hro : kv_room (sK S) wz iz = sK S 11 iz - sK S 12 iz := if_pos (Or.inl hA)
        refine ce_lload dL_kept_264 rfl ?_
        refine ce_aload_n dL_kept_266 rfl ?_
        refine ce_iload dL_kept_267 rfl ?_
        refine ce_iconst (v := nI (1)) dL_kept_269 (by decide) ?_
        refine kc_Wj dL_kept_270 hL_bin kRL_129 (q_bin1A (hz).w iv (i := iz) (by omega) hA) rfl rfl (by decide) (Nat.le_of_ble_eq_true rfl) rfl (by show _ ≤ 100; omega) ?_
        refine ce_iload dL_kept_273 rfl ?_
        refine ce_i2l (v := lN (wz)) dL_kept_275 (nI_l (by omega)) ?_
        refine ce_lcmp (z := lg_cmp ((-99999 : Int64)) (lN (wz))) dL_kept_276 rfl ?_
        refine ce_if_neC (tgt := 290) dL_kept_277 (by decide) rfl (fun c_277 => ?_) (fun c_277 => ?_)
        · refine ce_lconst (v := lN 0) dL_kept_290 (by decide) ?_
          refine ce_ladd (z := lN (tz + (0))) dL_kept_291 (lN_add _ _) ?_
          refine ce_lstore dL_kept_292 (Nat.le_of_ble_eq_true rfl) rfl ?_
          refine ce_lload dL_kept_294 rfl ?_
          refine ce_aload_n dL_kept_296 rfl ?_
          refine ce_iload dL_kept_297 rfl ?_
          refine ce_iconst (v := nI (1)) dL_kept_299 (by decide) ?_
          refine kc_Wj dL_kept_300 hL_bin kRL_129 (q_bin1A (hz).w iv (i := iz) (by omega) hA) rfl rfl (by decide) (Nat.le_of_ble_eq_true rfl) rfl (by show _ ≤ 100; omega) ?_
          refine ce_iload dL_kept_303 rfl ?_
          refine ce_i2l (v := lN (wz)) dL_kept_305 (nI_l (by omega)) ?_
          refine ce_lcmp (z := lg_cmp ((-99999 : Int64)) (lN (wz))) dL_kept_306 rfl ?_
          refine ce_if_eqC (tgt := 324) dL_kept_307 (by decide) rfl (fun c_307 => ?_) (fun c_307 => ?_)
          · exact absurd c_307 (n9_ne (by omega))
          · refine ce_aload_n dL_kept_310 rfl ?_
            refine ce_iload dL_kept_311 rfl ?_
            refine ce_iconst (v := nI (1)) dL_kept_313 (by decide) ?_
            refine kc_Wj dL_kept_314 hL_bin kRL_129 (q_bin1A (hz).w iv (i := iz) (by omega) hA) rfl rfl (by decide) (Nat.le_of_ble_eq_true rfl) rfl (by show _ ≤ 100; omega) ?_
            refine ce_ldc2 dL_kept_317 kRL_160 ?_
            refine ce_lcmp (z := lg_cmp ((-99999 : Int64)) ((-99999 : Int64))) dL_kept_320 rfl ?_
            refine ce_if_neC (tgt := 342) dL_kept_321 (by decide) rfl (fun c_321 => ?_) (fun c_321 => ?_)
            · exact absurd rfl c_321
            · refine ce_aload_n dL_kept_324 rfl ?_
              refine ce_iload dL_kept_325 rfl ?_
              refine ce_iconst (v := nI (0)) dL_kept_327 (by decide) ?_
              refine kc_Wj dL_kept_328 hL_bin kRL_129 (q_bin0 (hz).w iv (i := iz) (by omega)) rfl rfl (by decide) (Nat.le_of_ble_eq_true rfl) rfl (by show _ ≤ 100; omega) ?_
              refine ce_aload_n dL_kept_331 rfl ?_
              refine ce_iload dL_kept_332 rfl ?_
              refine ce_iconst (v := nI (2)) dL_kept_334 (by decide) ?_
              refine kc_Wj dL_kept_335 hL_bin kRL_129 (q_bin2 (hz).w iv (i := iz) (by omega)) rfl rfl (by decide) (Nat.le_of_ble_eq_true rfl) rfl (by show _ ≤ 100; omega) ?_
              refine ce_lsub (z := lN (sK S 11 (iz) - (sK S 12 (iz)))) dL_kept_338 (lN_sub (by omega)) ?_
              refine ce_goto (tgt := 343) dL_kept_339 (by decide) ?_
              refine ce_ladd (z := lN (uz + (sK S 11 (iz) - (sK S 12 (iz))))) dL_kept_343 (lN_add _ _) ?_
              refine ce_lstore dL_kept_344 (Nat.le_of_ble_eq_true rfl) rfl ?_
              refine ce_iinc (v := nI (iz + 1)) dL_kept_346 rfl (ce_inc1 _) (Nat.le_of_ble_eq_true rfl) rfl ?_
              refine ce_goto (tgt := 258) dL_kept_349 (by decide) ?_
              refine ce_drop (L' := [some (.ref (a)), some (.int (nI (sK S 0 0))), some (.int (nI (sK S 0 1))), some (.int (nI (sK S 0 2))), some (.int (nI (1))), some (.long (lN (cz))), none, some (.long (lN (dz))), none, some (.long (lN (fz))), none, some (.long (lN (rz))), none, some (.int (nI (wz))), some (.ref (zz)), some (.long (lN (gz))), none, some (.int (nI (oz))), some (.long (lN (tz + (0)))), none, some (.long (lN (uz + (sK S 11 (iz) - (sK S 12 (iz)))))), none, some (.int (nI (iz + 1))), none, none, none]) (ce_le_s rfl (ce_le_s rfl (ce_le_s rfl (ce_le_s rfl (ce_le_s rfl (ce_le_s rfl (ce_le_n (ce_le_s rfl (ce_le_n (ce_le_s rfl (ce_le_n (ce_le_s rfl (ce_le_n (ce_le_s rfl (ce_le_s rfl (ce_le_s rfl (ce_le_n (ce_le_s rfl (ce_le_s rfl (ce_le_n (ce_le_s rfl (ce_le_n (ce_le_s rfl (ce_le_n (ce_le_n (ce_le_n ce_le_e)))))))))))))))))))))))))) ?_
              exact ih (iz + 1) _ _ (by omega) (by omega) (by show _ = ce_sum (kv_bw (sK S) wz) iz + kv_bw (sK S) wz iz; omega) (by show _ = ce_sum (kv_room (sK S) wz) iz + kv_room (sK S) wz iz; omega)
        · exact absurd c_277 (n9_ne (by omega))
      · by_cases hB : sK S 13 iz = wz + 1
        · have hbw : kv_bw (sK S) wz iz = sK S 12 iz := if_pos hB
          have hro : kv_room (sK S) wz iz = sK S 11 iz - sK S 12 iz := if_pos (Or.inr hB)
          refine ce_lload dL_kept_264 rfl ?_
          refine ce_aload_n dL_kept_266 rfl ?_
          refine ce_iload dL_kept_267 rfl ?_
          refine ce_iconst (v := nI (1)) dL_kept_269 (by decide) ?_
          refine kc_Wj dL_kept_270 hL_bin kRL_129 (q_bin1B (hz).w iv (i := iz) (by omega) hA) rfl rfl (by decide) (Nat.le_of_ble_eq_true rfl) rfl (by show _ ≤ 100; omega) ?_
          refine ce_iload dL_kept_273 rfl ?_
          refine ce_i2l (v := lN (wz)) dL_kept_275 (nI_l (by omega)) ?_
          refine ce_lcmp (z := lg_cmp (lN (sK S 13 (iz) - 1)) (lN (wz))) dL_kept_276 rfl ?_
          refine ce_if_neL (a := sK S 13 (iz) - 1) (b := wz) (tgt := 290) dL_kept_277 (by decide) rfl (by omega) (by omega) (fun c_277 => ?_) (fun c_277 => ?_)
          · omega
          · refine ce_aload_n dL_kept_280 rfl ?_
            refine ce_iload dL_kept_281 rfl ?_
            refine ce_iconst (v := nI (2)) dL_kept_283 (by decide) ?_
            refine kc_Wj dL_kept_284 hL_bin kRL_129 (q_bin2 (hz).w iv (i := iz) (by omega)) rfl rfl (by decide) (Nat.le_of_ble_eq_true rfl) rfl (by show _ ≤ 100; omega) ?_
            refine ce_goto (tgt := 291) dL_kept_287 (by decide) ?_
            refine ce_ladd (z := lN (tz + (sK S 12 (iz)))) dL_kept_291 (lN_add _ _) ?_
            refine ce_lstore dL_kept_292 (Nat.le_of_ble_eq_true rfl) rfl ?_
            refine ce_lload dL_kept_294 rfl ?_
            refine ce_aload_n dL_kept_296 rfl ?_
            refine ce_iload dL_kept_297 rfl ?_
            refine ce_iconst (v := nI (1)) dL_kept_299 (by decide) ?_
            refine kc_Wj dL_kept_300 hL_bin kRL_129 (q_bin1B (hz).w iv (i := iz) (by omega) hA) rfl rfl (by decide) (Nat.le_of_ble_eq_true rfl) rfl (by show _ ≤ 100; omega) ?_
            refine ce_iload dL_kept_303 rfl ?_
            refine ce_i2l (v := lN (wz)) dL_kept_305 (nI_l (by omega)) ?_
            refine ce_lcmp (z := lg_cmp (lN (sK S 13 (iz) - 1)) (lN (wz))) dL_kept_306 rfl ?_
            refine ce_if_eqL (a := sK S 13 (iz) - 1) (b := wz) (tgt := 324) dL_kept_307 (by decide) rfl (by omega) (by omega) (fun c_307 => ?_) (fun c_307 => ?_)
            · refine ce_aload_n dL_kept_324 rfl ?_
              refine ce_iload dL_kept_325 rfl ?_
              refine ce_iconst (v := nI (0)) dL_kept_327 (by decide) ?_
              refine kc_Wj dL_kept_328 hL_bin kRL_129 (q_bin0 (hz).w iv (i := iz) (by omega)) rfl rfl (by decide) (Nat.le_of_ble_eq_true rfl) rfl (by show _ ≤ 100; omega) ?_
              refine ce_aload_n dL_kept_331 rfl ?_
              refine ce_iload dL_kept_332 rfl ?_
              refine ce_iconst (v := nI (2)) dL_kept_334 (by decide) ?_
              refine kc_Wj dL_kept_335 hL_bin kRL_129 (q_bin2 (hz).w iv (i := iz) (by omega)) rfl rfl (by decide) (Nat.le_of_ble_eq_true rfl) rfl (by show _ ≤ 100; omega) ?_
              refine ce_lsub (z := lN (sK S 11 (iz) - (sK S 12 (iz)))) dL_kept_338 (lN_sub (by omega)) ?_
              refine ce_goto (tgt := 343) dL_kept_339 (by decide) ?_
              refine ce_ladd (z := lN (uz + (sK S 11 (iz) - (sK S 12 (iz))))) dL_kept_343 (lN_add _ _) ?_
              refine ce_lstore dL_kept_344 (Nat.le_of_ble_eq_true rfl) rfl ?_
              refine ce_iinc (v := nI (iz + 1)) dL_kept_346 rfl (ce_inc1 _) (Nat.le_of_ble_eq_true rfl) rfl ?_
              refine ce_goto (tgt := 258) dL_kept_349 (by decide) ?_
              refine ce_drop (L' := [some (.ref (a)), some (.int (nI (sK S 0 0))), some (.int (nI (sK S 0 1))), some (.int (nI (sK S 0 2))), some (.int (nI (1))), some (.long (lN (cz))), none, some (.long (lN (dz))), none, some (.long (lN (fz))), none, some (.long (lN (rz))), none, some (.int (nI (wz))), some (.ref (zz)), some (.long (lN (gz))), none, some (.int (nI (oz))), some (.long (lN (tz + (sK S 12 (iz))))), none, some (.long (lN (uz + (sK S 11 (iz) - (sK S 12 (iz)))))), none, some (.int (nI (iz + 1))), none, none, none]) (ce_le_s rfl (ce_le_s rfl (ce_le_s rfl (ce_le_s rfl (ce_le_s rfl (ce_le_s rfl (ce_le_n (ce_le_s rfl (ce_le_n (ce_le_s rfl (ce_le_n (ce_le_s rfl (ce_le_n (ce_le_s rfl (ce_le_s rfl (ce_le_s rfl (ce_le_n (ce_le_s rfl (ce_le_s rfl (ce_le_n (ce_le_s rfl (ce_le_n (ce_le_s rfl (ce_le_n (ce_le_n (ce_le_n ce_le_e)))))))))))))))))))))))))) ?_
              exact ih (iz + 1) _ _ (by omega) (by omega) (by show _ = ce_sum (kv_bw (sK S) wz) iz + kv_bw (sK S) wz iz; omega) (by show _ = ce_sum (kv_room (sK S) wz) iz + kv_room (sK S) wz iz; omega)
            · omega
        · have hbw : kv_bw (sK S) wz iz = 0 := if_neg hB
          have hro : kv_room (sK S) wz iz = 0 := if_neg (by omega)
          refine ce_lload dL_kept_264 rfl ?_
          refine ce_aload_n dL_kept_266 rfl ?_
          refine ce_iload dL_kept_267 rfl ?_
          refine ce_iconst (v := nI (1)) dL_kept_269 (by decide) ?_
          refine kc_Wj dL_kept_270 hL_bin kRL_129 (q_bin1B (hz).w iv (i := iz) (by omega) hA) rfl rfl (by decide) (Nat.le_of_ble_eq_true rfl) rfl (by show _ ≤ 100; omega) ?_
          refine ce_iload dL_kept_273 rfl ?_
          refine ce_i2l (v := lN (wz)) dL_kept_275 (nI_l (by omega)) ?_
          refine ce_lcmp (z := lg_cmp (lN (sK S 13 (iz) - 1)) (lN (wz))) dL_kept_276 rfl ?_
          refine ce_if_neL (a := sK S 13 (iz) - 1) (b := wz) (tgt := 290) dL_kept_277 (by decide) rfl (by omega) (by omega) (fun c_277 => ?_) (fun c_277 => ?_)
          · refine ce_lconst (v := lN 0) dL_kept_290 (by decide) ?_
            refine ce_ladd (z := lN (tz + (0))) dL_kept_291 (lN_add _ _) ?_
            refine ce_lstore dL_kept_292 (Nat.le_of_ble_eq_true rfl) rfl ?_
            refine ce_lload dL_kept_294 rfl ?_
            refine ce_aload_n dL_kept_296 rfl ?_
            refine ce_iload dL_kept_297 rfl ?_
            refine ce_iconst (v := nI (1)) dL_kept_299 (by decide) ?_
            refine kc_Wj dL_kept_300 hL_bin kRL_129 (q_bin1B (hz).w iv (i := iz) (by omega) hA) rfl rfl (by decide) (Nat.le_of_ble_eq_true rfl) rfl (by show _ ≤ 100; omega) ?_
            refine ce_iload dL_kept_303 rfl ?_
            refine ce_i2l (v := lN (wz)) dL_kept_305 (nI_l (by omega)) ?_
            refine ce_lcmp (z := lg_cmp (lN (sK S 13 (iz) - 1)) (lN (wz))) dL_kept_306 rfl ?_
            refine ce_if_eqL (a := sK S 13 (iz) - 1) (b := wz) (tgt := 324) dL_kept_307 (by decide) rfl (by omega) (by omega) (fun c_307 => ?_) (fun c_307 => ?_)
            · omega
            · refine ce_aload_n dL_kept_310 rfl ?_
              refine ce_iload dL_kept_311 rfl ?_
              refine ce_iconst (v := nI (1)) dL_kept_313 (by decide) ?_
              refine kc_Wj dL_kept_314 hL_bin kRL_129 (q_bin1B (hz).w iv (i := iz) (by omega) hA) rfl rfl (by decide) (Nat.le_of_ble_eq_true rfl) rfl (by show _ ≤ 100; omega) ?_
              refine ce_ldc2 dL_kept_317 kRL_160 ?_
              refine ce_lcmp (z := lg_cmp (lN (sK S 13 (iz) - 1)) ((-99999 : Int64))) dL_kept_320 rfl ?_
              refine ce_if_neC (tgt := 342) dL_kept_321 (by decide) rfl (fun c_321 => ?_) (fun c_321 => ?_)
              · refine ce_lconst (v := lN 0) dL_kept_342 (by decide) ?_
                refine ce_ladd (z := lN (uz + (0))) dL_kept_343 (lN_add _ _) ?_
                refine ce_lstore dL_kept_344 (Nat.le_of_ble_eq_true rfl) rfl ?_
                refine ce_iinc (v := nI (iz + 1)) dL_kept_346 rfl (ce_inc1 _) (Nat.le_of_ble_eq_true rfl) rfl ?_
                refine ce_goto (tgt := 258) dL_kept_349 (by decide) ?_
                refine ce_drop (L' := [some (.ref (a)), some (.int (nI (sK S 0 0))), some (.int (nI (sK S 0 1))), some (.int (nI (sK S 0 2))), some (.int (nI (1))), some (.long (lN (cz))), none, some (.long (lN (dz))), none, some (.long (lN (fz))), none, some (.long (lN (rz))), none, some (.int (nI (wz))), some (.ref (zz)), some (.long (lN (gz))), none, some (.int (nI (oz))), some (.long (lN (tz + (0)))), none, some (.long (lN (uz + (0)))), none, some (.int (nI (iz + 1))), none, none, none]) (ce_le_s rfl (ce_le_s rfl (ce_le_s rfl (ce_le_s rfl (ce_le_s rfl (ce_le_s rfl (ce_le_n (ce_le_s rfl (ce_le_n (ce_le_s rfl (ce_le_n (ce_le_s rfl (ce_le_n (ce_le_s rfl (ce_le_s rfl (ce_le_s rfl (ce_le_n (ce_le_s rfl (ce_le_s rfl (ce_le_n (ce_le_s rfl (ce_le_n (ce_le_s rfl (ce_le_n (ce_le_n (ce_le_n ce_le_e)))))))))))))))))))))))))) ?_
                exact ih (iz + 1) _ _ (by omega) (by omega) (by show _ = ce_sum (kv_bw (sK S) wz) iz + kv_bw (sK S) wz iz; omega) (by show _ = ce_sum (kv_room (sK S) wz) iz + kv_room (sK S) wz iz; omega)
              · exact absurd c_321.symm (n9_ne (by omega))
          · omega
set_option maxHeartbeats 2000000 in
set_option maxRecDepth 20000 in
theorem kp_co {a : Nat} {S : ks_S} (iv : kl_iv S) {Q : Option Value → ce_S → ce_D → Prop} {X : String → ce_S → ce_D → Prop} {σi σ : ce_S} {gi g : ce_D} {wz cz dz fz rz nb kz gz tz uz s0 s1 s2 : Nat} (ht : a + 411 ≤ σi.1) (hf : ce_kd σi σi.1 = 0) (hwz : wz < sK S 0 1) (hnb : nb ≤ 80) (h5 : sK S 5 wz = 0) (hz : kz9 a S (ce_nw σi 14 3) (ce_nd σi gi) σi.1 s0 s1 s2 σ g) (e0 : s0 = ce_sum (fun mz => sK S 7 (mz * 6 + wz)) (sK S 0 0)) (e1 : s1 = ce_sum (fun mz => sK S 8 (mz * 6 + wz)) (sK S 0 0)) (e2 : s2 = ce_sum (fun mz => sK S 9 (mz * 6 + wz)) (sK S 0 0)) (eg : gz = ce_sum (fun mz => kv_all (sK S) wz 8 (mz * 6 + wz)) (sK S 0 0)) (et : tz = ce_sum (kv_bw (sK S) wz) (sK S 0 2)) (eu : uz = ce_sum (kv_room (sK S) wz) (sK S 0 2)) (hkz : kz ≤ nb + 7) (kk : ∀ (kz : Nat) (σ : ce_S) (g : ce_D) (c9 d9 f9 r9 : Nat), kw a S σi gi σ g → c9 = cz + kv_sum (sK S) 9 wz → d9 = dz + kv_sum (sK S) 10 wz → f9 = fz + sK S 6 wz → r9 = rz + sK S 4 wz → kz ≤ nb + 8 → ce_WP (ce_rl 1 100) mL_kept (kz) (6 * (kz)) 79 [some (.ref (a)), some (.int (nI (sK S 0 0))), some (.int (nI (sK S 0 1))), some (.int (nI (sK S 0 2))), some (.int (nI (1))), some (.long (lN (c9))), none, some (.long (lN (d9))), none, some (.long (lN (f9))), none, some (.long (lN (r9))), none, some (.int (nI (wz + 1))), none, none, none, none, none, none, none, none, none, none, none, none] [] σ g Q X) : ce_WP (ce_rl 1 100) mL_kept (kz) (6 * (kz)) 352 [some (.ref (a)), some (.int (nI (sK S 0 0))), some (.int (nI (sK S 0 1))), some (.int (nI (sK S 0 2))), some (.int (nI (1))), some (.long (lN (cz))), none, some (.long (lN (dz))), none, some (.long (lN (fz))), none, some (.long (lN (rz))), none, some (.int (nI (wz))), some (.ref (σi.1)), some (.long (lN (gz))), none, some (.int (nI (1))), some (.long (lN (tz))), none, some (.long (lN (uz))), none, none, none, none, none] [] σ g Q X := by
  have b9 := iv.ok.1.b
  have hs7 := kv_sum_m iv.ok.1 (a := 7) (w := wz) (by omega) (by omega)
  have hs8 := kv_sum_m iv.ok.1 (a := 8) (w := wz) (by omega) (by omega)
  have hs9 := kv_sum_m iv.ok.1 (a := 9) (w := wz) (by omega) (by omega)
  have hbw := kv_bw_B iv.ok.1 (w := wz) (by omega)
  have hbo := iv.ok.1.bo wz (by omega)
  have hb7 := iv.ok.1.b7 wz
  have hbr := iv.ok.1.bro wz
  have h5l := iv.ok.1.st wz
  have hz8 : sK S 5 wz ≠ 1 → kv_sum (sK S) 8 wz = 0 := fun h => ce_sum_z (fun m hm => iv.ok.1.z8 wz (by omega) h m hm)
  have hz9 : sK S 5 wz ≠ 2 → kv_sum (sK S) 9 wz = 0 := fun h => ce_sum_z (fun m hm => (iv.ok.1.z9 wz (by omega) h m hm).1)
  have hz10 : sK S 5 wz ≠ 2 → kv_sum (sK S) 10 wz = 0 := fun h => ce_sum_z (fun m hm => (iv.ok.1.z9 wz (by omega) h m hm).2)
  have hz6 : sK S 5 wz ≠ 2 → sK S 6 wz = 0 := fun h => iv.kj.1.1.2 wz (by omega) h
  have hmin := kv_all_min iv.ok.1 (w := wz) (by omega) h5
  have hsa := kv_sum_m (cl_all iv.ok.1 hwz h5) (a := 8) (w := wz) (by omega) (by omega)
  rw [show kv_all (sK S) wz 0 0 = sK S 0 0 from kv_all_ne (by decide)] at hsa
  have hsh := kx_sh_iff iv.ok.1 (w := wz) (by omega) h5
  refine ce_iload dL_kept_352 rfl ?_
  refine ce_if_eqN (tgt := 617) dL_kept_354 (by decide) rfl (by omega) (fun c_354 => ?_) (fun c_354 => ?_)
  · omega
  · refine ce_aload_n dL_kept_357 rfl ?_
    refine ce_iload dL_kept_358 rfl ?_
    refine ce_bipush (v := nI (8)) dL_kept_360 (by decide) ?_
    refine kc_Wj dL_kept_362 hL_wine kRL_127 (q_wine8 (hz).w iv (w := wz) (by omega)) rfl rfl (by decide) (Nat.le_of_ble_eq_true rfl) rfl (by show _ ≤ 100; omega) ?_
    refine ce_aload dL_kept_365 rfl ?_
    refine ce_iconst (v := nI (0)) dL_kept_367 (by decide) ?_
    refine ce_laldv dL_kept_368 (hz).k rfl (hz).l (by decide) (by decide) (hz).v0 ?_
    refine ce_lcmp (z := lg_cmp (lN (kv_sum (sK S) 7 (wz))) (lN (s0))) dL_kept_369 rfl ?_
    refine ce_if_neL (a := kv_sum (sK S) 7 (wz)) (b := s0) (tgt := 617) dL_kept_370 (by decide) rfl (by omega) (by omega) (fun c_370 => ?_) (fun c_370 => ?_)
    · omega
    · refine ce_aload_n dL_kept_373 rfl ?_
      refine ce_iload dL_kept_374 rfl ?_
      refine ce_bipush (v := nI (7)) dL_kept_376 (by decide) ?_
      refine kc_Wj dL_kept_378 hL_wine kRL_127 (q_wine7 (hz).w iv (w := wz) (by omega)) rfl rfl (by decide) (Nat.le_of_ble_eq_true rfl) rfl (by show _ ≤ 100; omega) ?_
      refine ce_aload dL_kept_381 rfl ?_
      refine ce_iconst (v := nI (1)) dL_kept_383 (by decide) ?_
      refine ce_laldv dL_kept_384 (hz).k rfl (hz).l (by decide) (by decide) (hz).v1 ?_
      refine ce_lcmp (z := lg_cmp (lN (kv_sum (sK S) 8 (wz))) (lN (s1))) dL_kept_385 rfl ?_
      refine ce_if_neL (a := kv_sum (sK S) 8 (wz)) (b := s1) (tgt := 617) dL_kept_386 (by decide) rfl (by omega) (by omega) (fun c_386 => ?_) (fun c_386 => ?_)
      · omega
      · refine ce_aload_n dL_kept_389 rfl ?_
        refine ce_iload dL_kept_390 rfl ?_
        refine ce_iconst (v := nI (4)) dL_kept_392 (by decide) ?_
        refine kc_Wj dL_kept_393 hL_wine kRL_127 (q_wine4 (hz).w iv (w := wz) (by omega)) rfl rfl (by decide) (Nat.le_of_ble_eq_true rfl) rfl (by show _ ≤ 100; omega) ?_
        refine ce_aload dL_kept_396 rfl ?_
        refine ce_iconst (v := nI (2)) dL_kept_398 (by decide) ?_
        refine ce_laldv dL_kept_399 (hz).k rfl (hz).l (by decide) (by decide) (hz).v2 ?_
        refine ce_lcmp (z := lg_cmp (lN (kv_sum (sK S) 9 (wz))) (lN (s2))) dL_kept_400 rfl ?_
        refine ce_if_neL (a := kv_sum (sK S) 9 (wz)) (b := s2) (tgt := 617) dL_kept_401 (by decide) rfl (by omega) (by omega) (fun c_401 => ?_) (fun c_401 => ?_)
        · omega
        · refine ce_lload dL_kept_404 rfl ?_
          refine ce_aload dL_kept_406 rfl ?_
          refine ce_iconst (v := nI (2)) dL_kept_408 (by decide) ?_
          refine ce_laldv dL_kept_409 (hz).k rfl (hz).l (by decide) (by decide) (hz).v2 ?_
          refine ce_lcmp (z := lg_cmp (lN (tz)) (lN (s2))) dL_kept_410 rfl ?_
          refine ce_if_neL (a := tz) (b := s2) (tgt := 617) dL_kept_411 (by decide) rfl (by omega) (by omega) (fun c_411 => ?_) (fun c_411 => ?_)
          · omega
          · refine ce_aload_n dL_kept_414 rfl ?_
            refine ce_iload dL_kept_415 rfl ?_
            refine kc_Wj dL_kept_417 hL_roomFor kRL_164 (q_room (hz).w iv (w := wz) (by omega)) rfl rfl (by decide) (Nat.le_of_ble_eq_true rfl) rfl (by show _ ≤ 100; omega) ?_
            refine ce_lload dL_kept_420 rfl ?_
            refine ce_lcmp (z := lg_cmp (lN (ce_sum (kv_room (sK S) (wz)) (sK S 0 2))) (lN (uz))) dL_kept_422 rfl ?_
            refine ce_if_neL (a := ce_sum (kv_room (sK S) (wz)) (sK S 0 2)) (b := uz) (tgt := 617) dL_kept_423 (by decide) rfl (by omega) (by omega) (fun c_423 => ?_) (fun c_423 => ?_)
            · omega
            · refine ce_aload_n dL_kept_426 rfl ?_
              refine ce_iload dL_kept_427 rfl ?_
              refine ce_iconst (v := nI (1)) dL_kept_429 (by decide) ?_
              refine kc_Wj dL_kept_430 hL_wine kRL_127 (q_wine1 (hz).w iv (w := wz) (by omega)) rfl rfl (by decide) (Nat.le_of_ble_eq_true rfl) rfl (by show _ ≤ 100; omega) ?_
              refine ce_aload_n dL_kept_433 rfl ?_
              refine ce_iload dL_kept_434 rfl ?_
              refine ce_iconst (v := nI (2)) dL_kept_436 (by decide) ?_
              refine kc_Wj dL_kept_437 hL_wine kRL_127 (q_wine2 (hz).w iv (w := wz) (by omega)) rfl rfl (by decide) (Nat.le_of_ble_eq_true rfl) rfl (by show _ ≤ 100; omega) ?_
              refine ce_aload dL_kept_440 rfl ?_
              refine ce_iconst (v := nI (1)) dL_kept_442 (by decide) ?_
              refine ce_laldv dL_kept_443 (hz).k rfl (hz).l (by decide) (by decide) (hz).v1 ?_
              refine ce_ladd (z := lN (sK S 4 (wz) + (s1))) dL_kept_444 (lN_add _ _) ?_
              refine ce_aload dL_kept_445 rfl ?_
              refine ce_iconst (v := nI (2)) dL_kept_447 (by decide) ?_
              refine ce_laldv dL_kept_448 (hz).k rfl (hz).l (by decide) (by decide) (hz).v2 ?_
              refine ce_ladd (z := lN (sK S 4 (wz) + (s1) + (s2))) dL_kept_449 (lN_add _ _) ?_
              refine ce_aload_n dL_kept_450 rfl ?_
              refine ce_iload dL_kept_451 rfl ?_
              refine ce_iconst (v := nI (5)) dL_kept_453 (by decide) ?_
              refine kc_Wj dL_kept_454 hL_wine kRL_127 (q_wine5 (hz).w iv (w := wz) (by omega)) rfl rfl (by decide) (Nat.le_of_ble_eq_true rfl) rfl (by show _ ≤ 100; omega) ?_
              refine ce_ladd (z := lN (sK S 4 (wz) + (s1) + (s2) + (kv_sum (sK S) 10 (wz)))) dL_kept_457 (lN_add _ _) ?_
              refine ce_aload_n dL_kept_458 rfl ?_
              refine ce_iload dL_kept_459 rfl ?_
              refine ce_bipush (v := nI (6)) dL_kept_461 (by decide) ?_
              refine kc_Wj dL_kept_463 hL_wine kRL_127 (q_wine6 (hz).w iv (w := wz) (by omega)) rfl rfl (by decide) (Nat.le_of_ble_eq_true rfl) rfl (by show _ ≤ 100; omega) ?_
              refine ce_ladd (z := lN (sK S 4 (wz) + (s1) + (s2) + (kv_sum (sK S) 10 (wz)) + (sK S 6 (wz)))) dL_kept_466 (lN_add _ _) ?_
              refine ce_lcmp (z := lg_cmp (lN (sK S 3 (wz))) (lN (sK S 4 (wz) + (s1) + (s2) + (kv_sum (sK S) 10 (wz)) + (sK S 6 (wz))))) dL_kept_467 rfl ?_
              refine ce_if_neL (a := sK S 3 (wz)) (b := sK S 4 (wz) + (s1) + (s2) + (kv_sum (sK S) 10 (wz)) + (sK S 6 (wz))) (tgt := 617) dL_kept_468 (by decide) rfl (by omega) (by omega) (fun c_468 => ?_) (fun c_468 => ?_)
              · omega
              · refine ce_iload dL_kept_471 rfl ?_
                refine ce_if_eqN (tgt := 578) dL_kept_473 (by decide) rfl (by omega) (fun c_473 => ?_) (fun c_473 => ?_)
                · omega
                · refine ce_aload dL_kept_476 rfl ?_
                  refine ce_iconst (v := nI (1)) dL_kept_478 (by decide) ?_
                  refine ce_laldv dL_kept_479 (hz).k rfl (hz).l (by decide) (by decide) (hz).v1 ?_
                  refine ce_aload dL_kept_480 rfl ?_
                  refine ce_iconst (v := nI (2)) dL_kept_482 (by decide) ?_
                  refine ce_laldv dL_kept_483 (hz).k rfl (hz).l (by decide) (by decide) (hz).v2 ?_
                  refine ce_ladd (z := lN (s1 + (s2))) dL_kept_484 (lN_add _ _) ?_
                  refine ce_aload_n dL_kept_485 rfl ?_
                  refine ce_iload dL_kept_486 rfl ?_
                  refine ce_iconst (v := nI (5)) dL_kept_488 (by decide) ?_
                  refine kc_Wj dL_kept_489 hL_wine kRL_127 (q_wine5 (hz).w iv (w := wz) (by omega)) rfl rfl (by decide) (Nat.le_of_ble_eq_true rfl) rfl (by show _ ≤ 100; omega) ?_
                  refine ce_ladd (z := lN (s1 + (s2) + (kv_sum (sK S) 10 (wz)))) dL_kept_492 (lN_add _ _) ?_
                  refine ce_aload_n dL_kept_493 rfl ?_
                  refine ce_iload dL_kept_494 rfl ?_
                  refine ce_bipush (v := nI (6)) dL_kept_496 (by decide) ?_
                  refine kc_Wj dL_kept_498 hL_wine kRL_127 (q_wine6 (hz).w iv (w := wz) (by omega)) rfl rfl (by decide) (Nat.le_of_ble_eq_true rfl) rfl (by show _ ≤ 100; omega) ?_
                  refine ce_ladd (z := lN (s1 + (s2) + (kv_sum (sK S) 10 (wz)) + (sK S 6 (wz)))) dL_kept_501 (lN_add _ _) ?_
                  refine ce_lconst (v := lN 0) dL_kept_502 (by decide) ?_
                  refine ce_lcmp (z := lg_cmp (lN (s1 + (s2) + (kv_sum (sK S) 10 (wz)) + (sK S 6 (wz)))) (lN (0))) dL_kept_503 rfl ?_
                  refine ce_if_neL (a := s1 + (s2) + (kv_sum (sK S) 10 (wz)) + (sK S 6 (wz))) (b := 0) (tgt := 617) dL_kept_504 (by decide) rfl (by omega) (by omega) (fun c_504 => ?_) (fun c_504 => ?_)
                  · omega
                  · refine ce_lload dL_kept_507 rfl ?_
                    refine ce_aload dL_kept_509 rfl ?_
                    refine ce_iconst (v := nI (0)) dL_kept_511 (by decide) ?_
                    refine ce_laldv dL_kept_512 (hz).k rfl (hz).l (by decide) (by decide) (hz).v0 ?_
                    refine ce_aload_n dL_kept_513 rfl ?_
                    refine ce_iload dL_kept_514 rfl ?_
                    refine ce_iconst (v := nI (2)) dL_kept_516 (by decide) ?_
                    refine kc_Wj dL_kept_517 hL_wine kRL_127 (q_wine2 (hz).w iv (w := wz) (by omega)) rfl rfl (by decide) (Nat.le_of_ble_eq_true rfl) rfl (by show _ ≤ 100; omega) ?_
                    refine ce_lcmp (z := lg_cmp (lN (s0)) (lN (sK S 4 (wz)))) dL_kept_520 rfl ?_
                    refine ce_if_geL (a := s0) (b := sK S 4 (wz)) (tgt := 531) dL_kept_521 (by decide) rfl (by omega) (by omega) (fun c_521 => ?_) (fun c_521 => ?_)
                    · refine ce_aload_n dL_kept_531 rfl ?_
                      refine ce_iload dL_kept_532 rfl ?_
                      refine ce_iconst (v := nI (2)) dL_kept_534 (by decide) ?_
                      refine kc_Wj dL_kept_535 hL_wine kRL_127 (q_wine2 (hz).w iv (w := wz) (by omega)) rfl rfl (by decide) (Nat.le_of_ble_eq_true rfl) rfl (by show _ ≤ 100; omega) ?_
                      refine ce_lcmp (z := lg_cmp (lN (gz)) (lN (sK S 4 (wz)))) dL_kept_538 rfl ?_
                      refine ce_if_neL (a := gz) (b := sK S 4 (wz)) (tgt := 617) dL_kept_539 (by decide) rfl (by omega) (by omega) (fun c_539 => ?_) (fun c_539 => ?_)
                      · omega
                      · obtain ⟨ozz, hoz⟩ : ∃ ozz, (kx_sh (sK S) wz (sK S 0 0)).1 = ozz := ⟨_, rfl⟩
                        have h9 := q_sh (hz).w iv (w := wz) (by omega) h5
                        rw [hoz] at h9 hsh
                        cases ozz with
                        | none =>
                          have hq : gz = s0 := by have := hsh.mp rfl; omega
                          have h9 : ce_CT (ce_rl 0 1) mL_shortest [.ref (a), .int (nI (wz))] σ g (kq σ g a S (-99999 : Int64)) ce_no := h9
                          refine ce_aload_n dL_kept_542 rfl ?_
                          refine ce_iload dL_kept_543 rfl ?_
                          refine kc_Wk dL_kept_545 hL_shortest kRL_162 h9 rfl rfl (by decide) (Nat.le_of_ble_eq_true rfl) rfl (by show _ ≤ 100; omega) (fun cs1 cg1 hcg1 => ?_)
                          have hz14 := (hz).call hcg1
                          refine ce_ldc2 dL_kept_548 kRL_160 ?_
                          refine ce_lcmp (z := lg_cmp ((-99999 : Int64)) ((-99999 : Int64))) dL_kept_551 rfl ?_
                          refine ce_if_neC (tgt := 559) dL_kept_552 (by decide) rfl (fun c_552 => ?_) (fun c_552 => ?_)
                          · exact absurd rfl c_552
                          · refine ce_iconst (v := nI (1)) dL_kept_555 (by decide) ?_
                            refine ce_goto (tgt := 560) dL_kept_556 (by decide) ?_
                            refine ce_lload dL_kept_560 rfl ?_
                            refine ce_aload dL_kept_562 rfl ?_
                            refine ce_iconst (v := nI (0)) dL_kept_564 (by decide) ?_
                            refine ce_laldv dL_kept_565 (hz14).k rfl (hz14).l (by decide) (by decide) (hz14).v0 ?_
                            refine ce_lcmp (z := lg_cmp (lN (gz)) (lN (s0))) dL_kept_566 rfl ?_
                            refine ce_if_neL (a := gz) (b := s0) (tgt := 574) dL_kept_567 (by decide) rfl (by omega) (by omega) (fun c_567 => ?_) (fun c_567 => ?_)
                            · omega
                            · refine ce_iconst (v := nI (1)) dL_kept_570 (by decide) ?_
                              refine ce_goto (tgt := 575) dL_kept_571 (by decide) ?_
                              refine ce_icmp_neN (tgt := 617) dL_kept_575 (by decide) rfl rfl (by omega) (by omega) (fun c_575 => ?_) (fun c_575 => ?_)
                              · omega
                              · refine ce_aload_n dL_kept_578 rfl ?_
                                refine ce_iload dL_kept_579 rfl ?_
                                refine ce_iconst (v := nI (3)) dL_kept_581 (by decide) ?_
                                refine kc_Wj dL_kept_582 hL_wine kRL_127 (q_wine3 (hz14).w iv (w := wz) (by omega)) rfl rfl (by decide) (Nat.le_of_ble_eq_true rfl) rfl (by show _ ≤ 100; omega) ?_
                                refine ce_ldc2 (v := lN 2) dL_kept_585 kRL_191 ?_
                                refine ce_lcmp (z := lg_cmp (lN (sK S 5 (wz))) (lN (2))) dL_kept_588 rfl ?_
                                refine ce_if_neL (a := sK S 5 (wz)) (b := 2) (tgt := 604) dL_kept_589 (by decide) rfl (by omega) (by omega) (fun c_589 => ?_) (fun c_589 => ?_)
                                · refine ce_aload dL_kept_604 rfl ?_
                                  refine ce_iconst (v := nI (2)) dL_kept_606 (by decide) ?_
                                  refine ce_laldv dL_kept_607 (hz14).k rfl (hz14).l (by decide) (by decide) (hz14).v2 ?_
                                  refine ce_lconst (v := lN 0) dL_kept_608 (by decide) ?_
                                  refine ce_lcmp (z := lg_cmp (lN (s2)) (lN (0))) dL_kept_609 rfl ?_
                                  refine ce_if_neL (a := s2) (b := 0) (tgt := 617) dL_kept_610 (by decide) rfl (by omega) (by omega) (fun c_610 => ?_) (fun c_610 => ?_)
                                  · omega
                                  · refine ce_iconst (v := nI (1)) dL_kept_613 (by decide) ?_
                                    refine ce_goto (tgt := 618) dL_kept_614 (by decide) ?_
                                    refine ce_istore dL_kept_618 (Nat.le_of_ble_eq_true rfl) rfl ?_
                                    refine ce_lload dL_kept_620 rfl ?_
                                    refine ce_aload dL_kept_622 rfl ?_
                                    refine ce_iconst (v := nI (2)) dL_kept_624 (by decide) ?_
                                    refine ce_laldv dL_kept_625 (hz14).k rfl (hz14).l (by decide) (by decide) (hz14).v2 ?_
                                    refine ce_ladd (z := lN (cz + (s2))) dL_kept_626 (lN_add _ _) ?_
                                    refine ce_lstore dL_kept_627 (Nat.le_of_ble_eq_true rfl) rfl ?_
                                    refine ce_lload dL_kept_629 rfl ?_
                                    refine ce_aload_n dL_kept_631 rfl ?_
                                    refine ce_iload dL_kept_632 rfl ?_
                                    refine ce_iconst (v := nI (5)) dL_kept_634 (by decide) ?_
                                    refine kc_Wj dL_kept_635 hL_wine kRL_127 (q_wine5 (hz14).w iv (w := wz) (by omega)) rfl rfl (by decide) (Nat.le_of_ble_eq_true rfl) rfl (by show _ ≤ 100; omega) ?_
                                    refine ce_ladd (z := lN (dz + (kv_sum (sK S) 10 (wz)))) dL_kept_638 (lN_add _ _) ?_
                                    refine ce_lstore dL_kept_639 (Nat.le_of_ble_eq_true rfl) rfl ?_
                                    refine ce_lload dL_kept_641 rfl ?_
                                    refine ce_aload_n dL_kept_643 rfl ?_
                                    refine ce_iload dL_kept_644 rfl ?_
                                    refine ce_bipush (v := nI (6)) dL_kept_646 (by decide) ?_
                                    refine kc_Wj dL_kept_648 hL_wine kRL_127 (q_wine6 (hz14).w iv (w := wz) (by omega)) rfl rfl (by decide) (Nat.le_of_ble_eq_true rfl) rfl (by show _ ≤ 100; omega) ?_
                                    refine ce_ladd (z := lN (fz + (sK S 6 (wz)))) dL_kept_651 (lN_add _ _) ?_
                                    refine ce_lstore dL_kept_652 (Nat.le_of_ble_eq_true rfl) rfl ?_
                                    refine ce_lload dL_kept_654 rfl ?_
                                    refine ce_aload_n dL_kept_656 rfl ?_
                                    refine ce_iload dL_kept_657 rfl ?_
                                    refine ce_iconst (v := nI (2)) dL_kept_659 (by decide) ?_
                                    refine kc_Wj dL_kept_660 hL_wine kRL_127 (q_wine2 (hz14).w iv (w := wz) (by omega)) rfl rfl (by decide) (Nat.le_of_ble_eq_true rfl) rfl (by show _ ≤ 100; omega) ?_
                                    refine ce_ladd (z := lN (rz + (sK S 4 (wz)))) dL_kept_663 (lN_add _ _) ?_
                                    refine ce_lstore dL_kept_664 (Nat.le_of_ble_eq_true rfl) rfl ?_
                                    refine ce_iinc (v := nI (wz + 1)) dL_kept_666 rfl (ce_inc1 _) (Nat.le_of_ble_eq_true rfl) rfl ?_
                                    refine ce_goto (tgt := 79) dL_kept_669 (by decide) ?_
                                    refine ce_drop (L' := [some (.ref (a)), some (.int (nI (sK S 0 0))), some (.int (nI (sK S 0 1))), some (.int (nI (sK S 0 2))), some (.int (nI (1))), some (.long (lN (cz + (s2)))), none, some (.long (lN (dz + (kv_sum (sK S) 10 (wz))))), none, some (.long (lN (fz + (sK S 6 (wz))))), none, some (.long (lN (rz + (sK S 4 (wz))))), none, some (.int (nI (wz + 1))), none, none, none, none, none, none, none, none, none, none, none, none]) (ce_le_s rfl (ce_le_s rfl (ce_le_s rfl (ce_le_s rfl (ce_le_s rfl (ce_le_s rfl (ce_le_n (ce_le_s rfl (ce_le_n (ce_le_s rfl (ce_le_n (ce_le_s rfl (ce_le_n (ce_le_s rfl (ce_le_n (ce_le_n (ce_le_n (ce_le_n (ce_le_n (ce_le_n (ce_le_n (ce_le_n (ce_le_n (ce_le_n (ce_le_n (ce_le_n ce_le_e)))))))))))))))))))))))))) ?_
                                    refine ce_forget (σ' := kz_s a σi cs1) (g' := kz_g σi gi cg1) rfl ((hz14).endf hf) ?_
                                    exact kk _ _ _ _ _ _ _ ((hz14).endw ht) (by omega) (by omega) (by omega) (by omega) (by omega)
                                · refine ce_aload dL_kept_592 rfl ?_
                                  refine ce_iconst (v := nI (1)) dL_kept_594 (by decide) ?_
                                  refine ce_laldv dL_kept_595 (hz14).k rfl (hz14).l (by decide) (by decide) (hz14).v1 ?_
                                  refine ce_lconst (v := lN 0) dL_kept_596 (by decide) ?_
                                  refine ce_lcmp (z := lg_cmp (lN (s1)) (lN (0))) dL_kept_597 rfl ?_
                                  refine ce_if_neL (a := s1) (b := 0) (tgt := 617) dL_kept_598 (by decide) rfl (by omega) (by omega) (fun c_598 => ?_) (fun c_598 => ?_)
                                  · omega
                                  · refine ce_goto (tgt := 613) dL_kept_601 (by decide) ?_
                                    refine ce_iconst (v := nI (1)) dL_kept_613 (by decide) ?_
                                    refine ce_goto (tgt := 618) dL_kept_614 (by decide) ?_
                                    refine ce_istore dL_kept_618 (Nat.le_of_ble_eq_true rfl) rfl ?_
                                    refine ce_lload dL_kept_620 rfl ?_
                                    refine ce_aload dL_kept_622 rfl ?_
                                    refine ce_iconst (v := nI (2)) dL_kept_624 (by decide) ?_
                                    refine ce_laldv dL_kept_625 (hz14).k rfl (hz14).l (by decide) (by decide) (hz14).v2 ?_
                                    refine ce_ladd (z := lN (cz + (s2))) dL_kept_626 (lN_add _ _) ?_
                                    refine ce_lstore dL_kept_627 (Nat.le_of_ble_eq_true rfl) rfl ?_
                                    refine ce_lload dL_kept_629 rfl ?_
                                    refine ce_aload_n dL_kept_631 rfl ?_
                                    refine ce_iload dL_kept_632 rfl ?_
                                    refine ce_iconst (v := nI (5)) dL_kept_634 (by decide) ?_
                                    refine kc_Wj dL_kept_635 hL_wine kRL_127 (q_wine5 (hz14).w iv (w := wz) (by omega)) rfl rfl (by decide) (Nat.le_of_ble_eq_true rfl) rfl (by show _ ≤ 100; omega) ?_
                                    refine ce_ladd (z := lN (dz + (kv_sum (sK S) 10 (wz)))) dL_kept_638 (lN_add _ _) ?_
                                    refine ce_lstore dL_kept_639 (Nat.le_of_ble_eq_true rfl) rfl ?_
                                    refine ce_lload dL_kept_641 rfl ?_
                                    refine ce_aload_n dL_kept_643 rfl ?_
                                    refine ce_iload dL_kept_644 rfl ?_
                                    refine ce_bipush (v := nI (6)) dL_kept_646 (by decide) ?_
                                    refine kc_Wj dL_kept_648 hL_wine kRL_127 (q_wine6 (hz14).w iv (w := wz) (by omega)) rfl rfl (by decide) (Nat.le_of_ble_eq_true rfl) rfl (by show _ ≤ 100; omega) ?_
                                    refine ce_ladd (z := lN (fz + (sK S 6 (wz)))) dL_kept_651 (lN_add _ _) ?_
                                    refine ce_lstore dL_kept_652 (Nat.le_of_ble_eq_true rfl) rfl ?_
                                    refine ce_lload dL_kept_654 rfl ?_
                                    refine ce_aload_n dL_kept_656 rfl ?_
                                    refine ce_iload dL_kept_657 rfl ?_
                                    refine ce_iconst (v := nI (2)) dL_kept_659 (by decide) ?_
                                    refine kc_Wj dL_kept_660 hL_wine kRL_127 (q_wine2 (hz14).w iv (w := wz) (by omega)) rfl rfl (by decide) (Nat.le_of_ble_eq_true rfl) rfl (by show _ ≤ 100; omega) ?_
                                    refine ce_ladd (z := lN (rz + (sK S 4 (wz)))) dL_kept_663 (lN_add _ _) ?_
                                    refine ce_lstore dL_kept_664 (Nat.le_of_ble_eq_true rfl) rfl ?_
                                    refine ce_iinc (v := nI (wz + 1)) dL_kept_666 rfl (ce_inc1 _) (Nat.le_of_ble_eq_true rfl) rfl ?_
                                    refine ce_goto (tgt := 79) dL_kept_669 (by decide) ?_
                                    refine ce_drop (L' := [some (.ref (a)), some (.int (nI (sK S 0 0))), some (.int (nI (sK S 0 1))), some (.int (nI (sK S 0 2))), some (.int (nI (1))), some (.long (lN (cz + (s2)))), none, some (.long (lN (dz + (kv_sum (sK S) 10 (wz))))), none, some (.long (lN (fz + (sK S 6 (wz))))), none, some (.long (lN (rz + (sK S 4 (wz))))), none, some (.int (nI (wz + 1))), none, none, none, none, none, none, none, none, none, none, none, none]) (ce_le_s rfl (ce_le_s rfl (ce_le_s rfl (ce_le_s rfl (ce_le_s rfl (ce_le_s rfl (ce_le_n (ce_le_s rfl (ce_le_n (ce_le_s rfl (ce_le_n (ce_le_s rfl (ce_le_n (ce_le_s rfl (ce_le_n (ce_le_n (ce_le_n (ce_le_n (ce_le_n (ce_le_n (ce_le_n (ce_le_n (ce_le_n (ce_le_n (ce_le_n (ce_le_n ce_le_e)))))))))))))))))))))))))) ?_
                                    refine ce_forget (σ' := kz_s a σi cs1) (g' := kz_g σi gi cg1) rfl ((hz14).endf hf) ?_
                                    exact kk _ _ _ _ _ _ _ ((hz14).endw ht) (by omega) (by omega) (by omega) (by omega) (by omega)
                        | some czz =>
                          have hq : gz ≠ s0 := fun e => by have h8 := hsh.mpr (by omega); cases h8
                          have hcz := kx_sh_lt hoz
                          rw [show ce_o (some czz) = nI czz from rfl, nI_l (by omega)] at h9
                          refine ce_aload_n dL_kept_542 rfl ?_
                          refine ce_iload dL_kept_543 rfl ?_
                          refine kc_Wk dL_kept_545 hL_shortest kRL_162 h9 rfl rfl (by decide) (Nat.le_of_ble_eq_true rfl) rfl (by show _ ≤ 100; omega) (fun cs1 cg1 hcg1 => ?_)
                          have hz15 := (hz).call hcg1
                          refine ce_ldc2 dL_kept_548 kRL_160 ?_
                          refine ce_lcmp (z := lg_cmp (lN (czz)) ((-99999 : Int64))) dL_kept_551 rfl ?_
                          refine ce_if_neC (tgt := 559) dL_kept_552 (by decide) rfl (fun c_552 => ?_) (fun c_552 => ?_)
                          · refine ce_iconst (v := nI (0)) dL_kept_559 (by decide) ?_
                            refine ce_lload dL_kept_560 rfl ?_
                            refine ce_aload dL_kept_562 rfl ?_
                            refine ce_iconst (v := nI (0)) dL_kept_564 (by decide) ?_
                            refine ce_laldv dL_kept_565 (hz15).k rfl (hz15).l (by decide) (by decide) (hz15).v0 ?_
                            refine ce_lcmp (z := lg_cmp (lN (gz)) (lN (s0))) dL_kept_566 rfl ?_
                            refine ce_if_neL (a := gz) (b := s0) (tgt := 574) dL_kept_567 (by decide) rfl (by omega) (by omega) (fun c_567 => ?_) (fun c_567 => ?_)
                            · refine ce_iconst (v := nI (0)) dL_kept_574 (by decide) ?_
                              refine ce_icmp_neN (tgt := 617) dL_kept_575 (by decide) rfl rfl (by omega) (by omega) (fun c_575 => ?_) (fun c_575 => ?_)
                              · omega
                              · refine ce_aload_n dL_kept_578 rfl ?_
                                refine ce_iload dL_kept_579 rfl ?_
                                refine ce_iconst (v := nI (3)) dL_kept_581 (by decide) ?_
                                refine kc_Wj dL_kept_582 hL_wine kRL_127 (q_wine3 (hz15).w iv (w := wz) (by omega)) rfl rfl (by decide) (Nat.le_of_ble_eq_true rfl) rfl (by show _ ≤ 100; omega) ?_
                                refine ce_ldc2 (v := lN 2) dL_kept_585 kRL_191 ?_
                                refine ce_lcmp (z := lg_cmp (lN (sK S 5 (wz))) (lN (2))) dL_kept_588 rfl ?_
                                refine ce_if_neL (a := sK S 5 (wz)) (b := 2) (tgt := 604) dL_kept_589 (by decide) rfl (by omega) (by omega) (fun c_589 => ?_) (fun c_589 => ?_)
                                · refine ce_aload dL_kept_604 rfl ?_
                                  refine ce_iconst (v := nI (2)) dL_kept_606 (by decide) ?_
                                  refine ce_laldv dL_kept_607 (hz15).k rfl (hz15).l (by decide) (by decide) (hz15).v2 ?_
                                  refine ce_lconst (v := lN 0) dL_kept_608 (by decide) ?_
                                  refine ce_lcmp (z := lg_cmp (lN (s2)) (lN (0))) dL_kept_609 rfl ?_
                                  refine ce_if_neL (a := s2) (b := 0) (tgt := 617) dL_kept_610 (by decide) rfl (by omega) (by omega) (fun c_610 => ?_) (fun c_610 => ?_)
                                  · omega
                                  · refine ce_iconst (v := nI (1)) dL_kept_613 (by decide) ?_
                                    refine ce_goto (tgt := 618) dL_kept_614 (by decide) ?_
                                    refine ce_istore dL_kept_618 (Nat.le_of_ble_eq_true rfl) rfl ?_
                                    refine ce_lload dL_kept_620 rfl ?_
                                    refine ce_aload dL_kept_622 rfl ?_
                                    refine ce_iconst (v := nI (2)) dL_kept_624 (by decide) ?_
                                    refine ce_laldv dL_kept_625 (hz15).k rfl (hz15).l (by decide) (by decide) (hz15).v2 ?_
                                    refine ce_ladd (z := lN (cz + (s2))) dL_kept_626 (lN_add _ _) ?_
                                    refine ce_lstore dL_kept_627 (Nat.le_of_ble_eq_true rfl) rfl ?_
                                    refine ce_lload dL_kept_629 rfl ?_
                                    refine ce_aload_n dL_kept_631 rfl ?_
                                    refine ce_iload dL_kept_632 rfl ?_
                                    refine ce_iconst (v := nI (5)) dL_kept_634 (by decide) ?_
                                    refine kc_Wj dL_kept_635 hL_wine kRL_127 (q_wine5 (hz15).w iv (w := wz) (by omega)) rfl rfl (by decide) (Nat.le_of_ble_eq_true rfl) rfl (by show _ ≤ 100; omega) ?_
                                    refine ce_ladd (z := lN (dz + (kv_sum (sK S) 10 (wz)))) dL_kept_638 (lN_add _ _) ?_
                                    refine ce_lstore dL_kept_639 (Nat.le_of_ble_eq_true rfl) rfl ?_
                                    refine ce_lload dL_kept_641 rfl ?_
                                    refine ce_aload_n dL_kept_643 rfl ?_
                                    refine ce_iload dL_kept_644 rfl ?_
                                    refine ce_bipush (v := nI (6)) dL_kept_646 (by decide) ?_
                                    refine kc_Wj dL_kept_648 hL_wine kRL_127 (q_wine6 (hz15).w iv (w := wz) (by omega)) rfl rfl (by decide) (Nat.le_of_ble_eq_true rfl) rfl (by show _ ≤ 100; omega) ?_
                                    refine ce_ladd (z := lN (fz + (sK S 6 (wz)))) dL_kept_651 (lN_add _ _) ?_
                                    refine ce_lstore dL_kept_652 (Nat.le_of_ble_eq_true rfl) rfl ?_
                                    refine ce_lload dL_kept_654 rfl ?_
                                    refine ce_aload_n dL_kept_656 rfl ?_
                                    refine ce_iload dL_kept_657 rfl ?_
                                    refine ce_iconst (v := nI (2)) dL_kept_659 (by decide) ?_
                                    refine kc_Wj dL_kept_660 hL_wine kRL_127 (q_wine2 (hz15).w iv (w := wz) (by omega)) rfl rfl (by decide) (Nat.le_of_ble_eq_true rfl) rfl (by show _ ≤ 100; omega) ?_
                                    refine ce_ladd (z := lN (rz + (sK S 4 (wz)))) dL_kept_663 (lN_add _ _) ?_
                                    refine ce_lstore dL_kept_664 (Nat.le_of_ble_eq_true rfl) rfl ?_
                                    refine ce_iinc (v := nI (wz + 1)) dL_kept_666 rfl (ce_inc1 _) (Nat.le_of_ble_eq_true rfl) rfl ?_
                                    refine ce_goto (tgt := 79) dL_kept_669 (by decide) ?_
                                    refine ce_drop (L' := [some (.ref (a)), some (.int (nI (sK S 0 0))), some (.int (nI (sK S 0 1))), some (.int (nI (sK S 0 2))), some (.int (nI (1))), some (.long (lN (cz + (s2)))), none, some (.long (lN (dz + (kv_sum (sK S) 10 (wz))))), none, some (.long (lN (fz + (sK S 6 (wz))))), none, some (.long (lN (rz + (sK S 4 (wz))))), none, some (.int (nI (wz + 1))), none, none, none, none, none, none, none, none, none, none, none, none]) (ce_le_s rfl (ce_le_s rfl (ce_le_s rfl (ce_le_s rfl (ce_le_s rfl (ce_le_s rfl (ce_le_n (ce_le_s rfl (ce_le_n (ce_le_s rfl (ce_le_n (ce_le_s rfl (ce_le_n (ce_le_s rfl (ce_le_n (ce_le_n (ce_le_n (ce_le_n (ce_le_n (ce_le_n (ce_le_n (ce_le_n (ce_le_n (ce_le_n (ce_le_n (ce_le_n ce_le_e)))))))))))))))))))))))))) ?_
                                    refine ce_forget (σ' := kz_s a σi cs1) (g' := kz_g σi gi cg1) rfl ((hz15).endf hf) ?_
                                    exact kk _ _ _ _ _ _ _ ((hz15).endw ht) (by omega) (by omega) (by omega) (by omega) (by omega)
                                · refine ce_aload dL_kept_592 rfl ?_
                                  refine ce_iconst (v := nI (1)) dL_kept_594 (by decide) ?_
                                  refine ce_laldv dL_kept_595 (hz15).k rfl (hz15).l (by decide) (by decide) (hz15).v1 ?_
                                  refine ce_lconst (v := lN 0) dL_kept_596 (by decide) ?_
                                  refine ce_lcmp (z := lg_cmp (lN (s1)) (lN (0))) dL_kept_597 rfl ?_
                                  refine ce_if_neL (a := s1) (b := 0) (tgt := 617) dL_kept_598 (by decide) rfl (by omega) (by omega) (fun c_598 => ?_) (fun c_598 => ?_)
                                  · omega
                                  · refine ce_goto (tgt := 613) dL_kept_601 (by decide) ?_
                                    refine ce_iconst (v := nI (1)) dL_kept_613 (by decide) ?_
                                    refine ce_goto (tgt := 618) dL_kept_614 (by decide) ?_
                                    refine ce_istore dL_kept_618 (Nat.le_of_ble_eq_true rfl) rfl ?_
                                    refine ce_lload dL_kept_620 rfl ?_
                                    refine ce_aload dL_kept_622 rfl ?_
                                    refine ce_iconst (v := nI (2)) dL_kept_624 (by decide) ?_
                                    refine ce_laldv dL_kept_625 (hz15).k rfl (hz15).l (by decide) (by decide) (hz15).v2 ?_
                                    refine ce_ladd (z := lN (cz + (s2))) dL_kept_626 (lN_add _ _) ?_
                                    refine ce_lstore dL_kept_627 (Nat.le_of_ble_eq_true rfl) rfl ?_
                                    refine ce_lload dL_kept_629 rfl ?_
                                    refine ce_aload_n dL_kept_631 rfl ?_
                                    refine ce_iload dL_kept_632 rfl ?_
                                    refine ce_iconst (v := nI (5)) dL_kept_634 (by decide) ?_
                                    refine kc_Wj dL_kept_635 hL_wine kRL_127 (q_wine5 (hz15).w iv (w := wz) (by omega)) rfl rfl (by decide) (Nat.le_of_ble_eq_true rfl) rfl (by show _ ≤ 100; omega) ?_
                                    refine ce_ladd (z := lN (dz + (kv_sum (sK S) 10 (wz)))) dL_kept_638 (lN_add _ _) ?_
                                    refine ce_lstore dL_kept_639 (Nat.le_of_ble_eq_true rfl) rfl ?_
                                    refine ce_lload dL_kept_641 rfl ?_
                                    refine ce_aload_n dL_kept_643 rfl ?_
                                    refine ce_iload dL_kept_644 rfl ?_
                                    refine ce_bipush (v := nI (6)) dL_kept_646 (by decide) ?_
                                    refine kc_Wj dL_kept_648 hL_wine kRL_127 (q_wine6 (hz15).w iv (w := wz) (by omega)) rfl rfl (by decide) (Nat.le_of_ble_eq_true rfl) rfl (by show _ ≤ 100; omega) ?_
                                    refine ce_ladd (z := lN (fz + (sK S 6 (wz)))) dL_kept_651 (lN_add _ _) ?_
                                    refine ce_lstore dL_kept_652 (Nat.le_of_ble_eq_true rfl) rfl ?_
                                    refine ce_lload dL_kept_654 rfl ?_
                                    refine ce_aload_n dL_kept_656 rfl ?_
                                    refine ce_iload dL_kept_657 rfl ?_
                                    refine ce_iconst (v := nI (2)) dL_kept_659 (by decide) ?_
                                    refine kc_Wj dL_kept_660 hL_wine kRL_127 (q_wine2 (hz15).w iv (w := wz) (by omega)) rfl rfl (by decide) (Nat.le_of_ble_eq_true rfl) rfl (by show _ ≤ 100; omega) ?_
                                    refine ce_ladd (z := lN (rz + (sK S 4 (wz)))) dL_kept_663 (lN_add _ _) ?_
                                    refine ce_lstore dL_kept_664 (Nat.le_of_ble_eq_true rfl) rfl ?_
                                    refine ce_iinc (v := nI (wz + 1)) dL_kept_666 rfl (ce_inc1 _) (Nat.le_of_ble_eq_true rfl) rfl ?_
                                    refine ce_goto (tgt := 79) dL_kept_669 (by decide) ?_
                                    refine ce_drop (L' := [some (.ref (a)), some (.int (nI (sK S 0 0))), some (.int (nI (sK S 0 1))), some (.int (nI (sK S 0 2))), some (.int (nI (1))), some (.long (lN (cz + (s2)))), none, some (.long (lN (dz + (kv_sum (sK S) 10 (wz))))), none, some (.long (lN (fz + (sK S 6 (wz))))), none, some (.long (lN (rz + (sK S 4 (wz))))), none, some (.int (nI (wz + 1))), none, none, none, none, none, none, none, none, none, none, none, none]) (ce_le_s rfl (ce_le_s rfl (ce_le_s rfl (ce_le_s rfl (ce_le_s rfl (ce_le_s rfl (ce_le_n (ce_le_s rfl (ce_le_n (ce_le_s rfl (ce_le_n (ce_le_s rfl (ce_le_n (ce_le_s rfl (ce_le_n (ce_le_n (ce_le_n (ce_le_n (ce_le_n (ce_le_n (ce_le_n (ce_le_n (ce_le_n (ce_le_n (ce_le_n (ce_le_n ce_le_e)))))))))))))))))))))))))) ?_
                                    refine ce_forget (σ' := kz_s a σi cs1) (g' := kz_g σi gi cg1) rfl ((hz15).endf hf) ?_
                                    exact kk _ _ _ _ _ _ _ ((hz15).endw ht) (by omega) (by omega) (by omega) (by omega) (by omega)
                            · omega
                          · exact absurd c_552.symm (n9_ne (by omega))
                    · refine ce_aload dL_kept_524 rfl ?_
                      refine ce_iconst (v := nI (0)) dL_kept_526 (by decide) ?_
                      refine ce_laldv dL_kept_527 (hz).k rfl (hz).l (by decide) (by decide) (hz).v0 ?_
                      refine ce_goto (tgt := 538) dL_kept_528 (by decide) ?_
                      refine ce_lcmp (z := lg_cmp (lN (gz)) (lN (s0))) dL_kept_538 rfl ?_
                      refine ce_if_neL (a := gz) (b := s0) (tgt := 617) dL_kept_539 (by decide) rfl (by omega) (by omega) (fun c_539 => ?_) (fun c_539 => ?_)
                      · omega
                      · obtain ⟨ozz, hoz⟩ : ∃ ozz, (kx_sh (sK S) wz (sK S 0 0)).1 = ozz := ⟨_, rfl⟩
                        have h9 := q_sh (hz).w iv (w := wz) (by omega) h5
                        rw [hoz] at h9 hsh
                        cases ozz with
                        | none =>
                          have hq : gz = s0 := by have := hsh.mp rfl; omega
                          have h9 : ce_CT (ce_rl 0 1) mL_shortest [.ref (a), .int (nI (wz))] σ g (kq σ g a S (-99999 : Int64)) ce_no := h9
                          refine ce_aload_n dL_kept_542 rfl ?_
                          refine ce_iload dL_kept_543 rfl ?_
                          refine kc_Wk dL_kept_545 hL_shortest kRL_162 h9 rfl rfl (by decide) (Nat.le_of_ble_eq_true rfl) rfl (by show _ ≤ 100; omega) (fun cs1 cg1 hcg1 => ?_)
                          have hz16 := (hz).call hcg1
                          refine ce_ldc2 dL_kept_548 kRL_160 ?_
                          refine ce_lcmp (z := lg_cmp ((-99999 : Int64)) ((-99999 : Int64))) dL_kept_551 rfl ?_
                          refine ce_if_neC (tgt := 559) dL_kept_552 (by decide) rfl (fun c_552 => ?_) (fun c_552 => ?_)
                          · exact absurd rfl c_552
                          · refine ce_iconst (v := nI (1)) dL_kept_555 (by decide) ?_
                            refine ce_goto (tgt := 560) dL_kept_556 (by decide) ?_
                            refine ce_lload dL_kept_560 rfl ?_
                            refine ce_aload dL_kept_562 rfl ?_
                            refine ce_iconst (v := nI (0)) dL_kept_564 (by decide) ?_
                            refine ce_laldv dL_kept_565 (hz16).k rfl (hz16).l (by decide) (by decide) (hz16).v0 ?_
                            refine ce_lcmp (z := lg_cmp (lN (gz)) (lN (s0))) dL_kept_566 rfl ?_
                            refine ce_if_neL (a := gz) (b := s0) (tgt := 574) dL_kept_567 (by decide) rfl (by omega) (by omega) (fun c_567 => ?_) (fun c_567 => ?_)
                            · omega
                            · refine ce_iconst (v := nI (1)) dL_kept_570 (by decide) ?_
                              refine ce_goto (tgt := 575) dL_kept_571 (by decide) ?_
                              refine ce_icmp_neN (tgt := 617) dL_kept_575 (by decide) rfl rfl (by omega) (by omega) (fun c_575 => ?_) (fun c_575 => ?_)
                              · omega
                              · refine ce_aload_n dL_kept_578 rfl ?_
                                refine ce_iload dL_kept_579 rfl ?_
                                refine ce_iconst (v := nI (3)) dL_kept_581 (by decide) ?_
                                refine kc_Wj dL_kept_582 hL_wine kRL_127 (q_wine3 (hz16).w iv (w := wz) (by omega)) rfl rfl (by decide) (Nat.le_of_ble_eq_true rfl) rfl (by show _ ≤ 100; omega) ?_
                                refine ce_ldc2 (v := lN 2) dL_kept_585 kRL_191 ?_
                                refine ce_lcmp (z := lg_cmp (lN (sK S 5 (wz))) (lN (2))) dL_kept_588 rfl ?_
                                refine ce_if_neL (a := sK S 5 (wz)) (b := 2) (tgt := 604) dL_kept_589 (by decide) rfl (by omega) (by omega) (fun c_589 => ?_) (fun c_589 => ?_)
                                · refine ce_aload dL_kept_604 rfl ?_
                                  refine ce_iconst (v := nI (2)) dL_kept_606 (by decide) ?_
                                  refine ce_laldv dL_kept_607 (hz16).k rfl (hz16).l (by decide) (by decide) (hz16).v2 ?_
                                  refine ce_lconst (v := lN 0) dL_kept_608 (by decide) ?_
                                  refine ce_lcmp (z := lg_cmp (lN (s2)) (lN (0))) dL_kept_609 rfl ?_
                                  refine ce_if_neL (a := s2) (b := 0) (tgt := 617) dL_kept_610 (by decide) rfl (by omega) (by omega) (fun c_610 => ?_) (fun c_610 => ?_)
                                  · omega
                                  · refine ce_iconst (v := nI (1)) dL_kept_613 (by decide) ?_
                                    refine ce_goto (tgt := 618) dL_kept_614 (by decide) ?_
                                    refine ce_istore dL_kept_618 (Nat.le_of_ble_eq_true rfl) rfl ?_
                                    refine ce_lload dL_kept_620 rfl ?_
                                    refine ce_aload dL_kept_622 rfl ?_
                                    refine ce_iconst (v := nI (2)) dL_kept_624 (by decide) ?_
                                    refine ce_laldv dL_kept_625 (hz16).k rfl (hz16).l (by decide) (by decide) (hz16).v2 ?_
                                    refine ce_ladd (z := lN (cz + (s2))) dL_kept_626 (lN_add _ _) ?_
                                    refine ce_lstore dL_kept_627 (Nat.le_of_ble_eq_true rfl) rfl ?_
                                    refine ce_lload dL_kept_629 rfl ?_
                                    refine ce_aload_n dL_kept_631 rfl ?_
                                    refine ce_iload dL_kept_632 rfl ?_
                                    refine ce_iconst (v := nI (5)) dL_kept_634 (by decide) ?_
                                    refine kc_Wj dL_kept_635 hL_wine kRL_127 (q_wine5 (hz16).w iv (w := wz) (by omega)) rfl rfl (by decide) (Nat.le_of_ble_eq_true rfl) rfl (by show _ ≤ 100; omega) ?_
                                    refine ce_ladd (z := lN (dz + (kv_sum (sK S) 10 (wz)))) dL_kept_638 (lN_add _ _) ?_
                                    refine ce_lstore dL_kept_639 (Nat.le_of_ble_eq_true rfl) rfl ?_
                                    refine ce_lload dL_kept_641 rfl ?_
                                    refine ce_aload_n dL_kept_643 rfl ?_
                                    refine ce_iload dL_kept_644 rfl ?_
                                    refine ce_bipush (v := nI (6)) dL_kept_646 (by decide) ?_
                                    refine kc_Wj dL_kept_648 hL_wine kRL_127 (q_wine6 (hz16).w iv (w := wz) (by omega)) rfl rfl (by decide) (Nat.le_of_ble_eq_true rfl) rfl (by show _ ≤ 100; omega) ?_
                                    refine ce_ladd (z := lN (fz + (sK S 6 (wz)))) dL_kept_651 (lN_add _ _) ?_
                                    refine ce_lstore dL_kept_652 (Nat.le_of_ble_eq_true rfl) rfl ?_
                                    refine ce_lload dL_kept_654 rfl ?_
                                    refine ce_aload_n dL_kept_656 rfl ?_
                                    refine ce_iload dL_kept_657 rfl ?_
                                    refine ce_iconst (v := nI (2)) dL_kept_659 (by decide) ?_
                                    refine kc_Wj dL_kept_660 hL_wine kRL_127 (q_wine2 (hz16).w iv (w := wz) (by omega)) rfl rfl (by decide) (Nat.le_of_ble_eq_true rfl) rfl (by show _ ≤ 100; omega) ?_
                                    refine ce_ladd (z := lN (rz + (sK S 4 (wz)))) dL_kept_663 (lN_add _ _) ?_
                                    refine ce_lstore dL_kept_664 (Nat.le_of_ble_eq_true rfl) rfl ?_
                                    refine ce_iinc (v := nI (wz + 1)) dL_kept_666 rfl (ce_inc1 _) (Nat.le_of_ble_eq_true rfl) rfl ?_
                                    refine ce_goto (tgt := 79) dL_kept_669 (by decide) ?_
                                    refine ce_drop (L' := [some (.ref (a)), some (.int (nI (sK S 0 0))), some (.int (nI (sK S 0 1))), some (.int (nI (sK S 0 2))), some (.int (nI (1))), some (.long (lN (cz + (s2)))), none, some (.long (lN (dz + (kv_sum (sK S) 10 (wz))))), none, some (.long (lN (fz + (sK S 6 (wz))))), none, some (.long (lN (rz + (sK S 4 (wz))))), none, some (.int (nI (wz + 1))), none, none, none, none, none, none, none, none, none, none, none, none]) (ce_le_s rfl (ce_le_s rfl (ce_le_s rfl (ce_le_s rfl (ce_le_s rfl (ce_le_s rfl (ce_le_n (ce_le_s rfl (ce_le_n (ce_le_s rfl (ce_le_n (ce_le_s rfl (ce_le_n (ce_le_s rfl (ce_le_n (ce_le_n (ce_le_n (ce_le_n (ce_le_n (ce_le_n (ce_le_n (ce_le_n (ce_le_n (ce_le_n (ce_le_n (ce_le_n ce_le_e)))))))))))))))))))))))))) ?_
                                    refine ce_forget (σ' := kz_s a σi cs1) (g' := kz_g σi gi cg1) rfl ((hz16).endf hf) ?_
                                    exact kk _ _ _ _ _ _ _ ((hz16).endw ht) (by omega) (by omega) (by omega) (by omega) (by omega)
                                · refine ce_aload dL_kept_592 rfl ?_
                                  refine ce_iconst (v := nI (1)) dL_kept_594 (by decide) ?_
                                  refine ce_laldv dL_kept_595 (hz16).k rfl (hz16).l (by decide) (by decide) (hz16).v1 ?_
                                  refine ce_lconst (v := lN 0) dL_kept_596 (by decide) ?_
                                  refine ce_lcmp (z := lg_cmp (lN (s1)) (lN (0))) dL_kept_597 rfl ?_
                                  refine ce_if_neL (a := s1) (b := 0) (tgt := 617) dL_kept_598 (by decide) rfl (by omega) (by omega) (fun c_598 => ?_) (fun c_598 => ?_)
                                  · omega
                                  · refine ce_goto (tgt := 613) dL_kept_601 (by decide) ?_
                                    refine ce_iconst (v := nI (1)) dL_kept_613 (by decide) ?_
                                    refine ce_goto (tgt := 618) dL_kept_614 (by decide) ?_
                                    refine ce_istore dL_kept_618 (Nat.le_of_ble_eq_true rfl) rfl ?_
                                    refine ce_lload dL_kept_620 rfl ?_
                                    refine ce_aload dL_kept_622 rfl ?_
                                    refine ce_iconst (v := nI (2)) dL_kept_624 (by decide) ?_
                                    refine ce_laldv dL_kept_625 (hz16).k rfl (hz16).l (by decide) (by decide) (hz16).v2 ?_
                                    refine ce_ladd (z := lN (cz + (s2))) dL_kept_626 (lN_add _ _) ?_
                                    refine ce_lstore dL_kept_627 (Nat.le_of_ble_eq_true rfl) rfl ?_
                                    refine ce_lload dL_kept_629 rfl ?_
                                    refine ce_aload_n dL_kept_631 rfl ?_
                                    refine ce_iload dL_kept_632 rfl ?_
                                    refine ce_iconst (v := nI (5)) dL_kept_634 (by decide) ?_
                                    refine kc_Wj dL_kept_635 hL_wine kRL_127 (q_wine5 (hz16).w iv (w := wz) (by omega)) rfl rfl (by decide) (Nat.le_of_ble_eq_true rfl) rfl (by show _ ≤ 100; omega) ?_
                                    refine ce_ladd (z := lN (dz + (kv_sum (sK S) 10 (wz)))) dL_kept_638 (lN_add _ _) ?_
                                    refine ce_lstore dL_kept_639 (Nat.le_of_ble_eq_true rfl) rfl ?_
                                    refine ce_lload dL_kept_641 rfl ?_
                                    refine ce_aload_n dL_kept_643 rfl ?_
                                    refine ce_iload dL_kept_644 rfl ?_
                                    refine ce_bipush (v := nI (6)) dL_kept_646 (by decide) ?_
                                    refine kc_Wj dL_kept_648 hL_wine kRL_127 (q_wine6 (hz16).w iv (w := wz) (by omega)) rfl rfl (by decide) (Nat.le_of_ble_eq_true rfl) rfl (by show _ ≤ 100; omega) ?_
                                    refine ce_ladd (z := lN (fz + (sK S 6 (wz)))) dL_kept_651 (lN_add _ _) ?_
                                    refine ce_lstore dL_kept_652 (Nat.le_of_ble_eq_true rfl) rfl ?_
                                    refine ce_lload dL_kept_654 rfl ?_
                                    refine ce_aload_n dL_kept_656 rfl ?_
                                    refine ce_iload dL_kept_657 rfl ?_
                                    refine ce_iconst (v := nI (2)) dL_kept_659 (by decide) ?_
                                    refine kc_Wj dL_kept_660 hL_wine kRL_127 (q_wine2 (hz16).w iv (w := wz) (by omega)) rfl rfl (by decide) (Nat.le_of_ble_eq_true rfl) rfl (by show _ ≤ 100; omega) ?_
                                    refine ce_ladd (z := lN (rz + (sK S 4 (wz)))) dL_kept_663 (lN_add _ _) ?_
                                    refine ce_lstore dL_kept_664 (Nat.le_of_ble_eq_true rfl) rfl ?_
                                    refine ce_iinc (v := nI (wz + 1)) dL_kept_666 rfl (ce_inc1 _) (Nat.le_of_ble_eq_true rfl) rfl ?_
                                    refine ce_goto (tgt := 79) dL_kept_669 (by decide) ?_
                                    refine ce_drop (L' := [some (.ref (a)), some (.int (nI (sK S 0 0))), some (.int (nI (sK S 0 1))), some (.int (nI (sK S 0 2))), some (.int (nI (1))), some (.long (lN (cz + (s2)))), none, some (.long (lN (dz + (kv_sum (sK S) 10 (wz))))), none, some (.long (lN (fz + (sK S 6 (wz))))), none, some (.long (lN (rz + (sK S 4 (wz))))), none, some (.int (nI (wz + 1))), none, none, none, none, none, none, none, none, none, none, none, none]) (ce_le_s rfl (ce_le_s rfl (ce_le_s rfl (ce_le_s rfl (ce_le_s rfl (ce_le_s rfl (ce_le_n (ce_le_s rfl (ce_le_n (ce_le_s rfl (ce_le_n (ce_le_s rfl (ce_le_n (ce_le_s rfl (ce_le_n (ce_le_n (ce_le_n (ce_le_n (ce_le_n (ce_le_n (ce_le_n (ce_le_n (ce_le_n (ce_le_n (ce_le_n (ce_le_n ce_le_e)))))))))))))))))))))))))) ?_
                                    refine ce_forget (σ' := kz_s a σi cs1) (g' := kz_g σi gi cg1) rfl ((hz16).endf hf) ?_
                                    exact kk _ _ _ _ _ _ _ ((hz16).endw ht) (by omega) (by omega) (by omega) (by omega) (by omega)
                        | some czz =>
                          have hq : gz ≠ s0 := fun e => by have h8 := hsh.mpr (by omega); cases h8
                          have hcz := kx_sh_lt hoz
                          rw [show ce_o (some czz) = nI czz from rfl, nI_l (by omega)] at h9
                          refine ce_aload_n dL_kept_542 rfl ?_
                          refine ce_iload dL_kept_543 rfl ?_
                          refine kc_Wk dL_kept_545 hL_shortest kRL_162 h9 rfl rfl (by decide) (Nat.le_of_ble_eq_true rfl) rfl (by show _ ≤ 100; omega) (fun cs1 cg1 hcg1 => ?_)
                          have hz17 := (hz).call hcg1
                          refine ce_ldc2 dL_kept_548 kRL_160 ?_
                          refine ce_lcmp (z := lg_cmp (lN (czz)) ((-99999 : Int64))) dL_kept_551 rfl ?_
                          refine ce_if_neC (tgt := 559) dL_kept_552 (by decide) rfl (fun c_552 => ?_) (fun c_552 => ?_)
                          · refine ce_iconst (v := nI (0)) dL_kept_559 (by decide) ?_
                            refine ce_lload dL_kept_560 rfl ?_
                            refine ce_aload dL_kept_562 rfl ?_
                            refine ce_iconst (v := nI (0)) dL_kept_564 (by decide) ?_
                            refine ce_laldv dL_kept_565 (hz17).k rfl (hz17).l (by decide) (by decide) (hz17).v0 ?_
                            refine ce_lcmp (z := lg_cmp (lN (gz)) (lN (s0))) dL_kept_566 rfl ?_
                            refine ce_if_neL (a := gz) (b := s0) (tgt := 574) dL_kept_567 (by decide) rfl (by omega) (by omega) (fun c_567 => ?_) (fun c_567 => ?_)
                            · refine ce_iconst (v := nI (0)) dL_kept_574 (by decide) ?_
                              refine ce_icmp_neN (tgt := 617) dL_kept_575 (by decide) rfl rfl (by omega) (by omega) (fun c_575 => ?_) (fun c_575 => ?_)
                              · omega
                              · refine ce_aload_n dL_kept_578 rfl ?_
                                refine ce_iload dL_kept_579 rfl ?_
                                refine ce_iconst (v := nI (3)) dL_kept_581 (by decide) ?_
                                refine kc_Wj dL_kept_582 hL_wine kRL_127 (q_wine3 (hz17).w iv (w := wz) (by omega)) rfl rfl (by decide) (Nat.le_of_ble_eq_true rfl) rfl (by show _ ≤ 100; omega) ?_
                                refine ce_ldc2 (v := lN 2) dL_kept_585 kRL_191 ?_
                                refine ce_lcmp (z := lg_cmp (lN (sK S 5 (wz))) (lN (2))) dL_kept_588 rfl ?_
                                refine ce_if_neL (a := sK S 5 (wz)) (b := 2) (tgt := 604) dL_kept_589 (by decide) rfl (by omega) (by omega) (fun c_589 => ?_) (fun c_589 => ?_)
                                · refine ce_aload dL_kept_604 rfl ?_
                                  refine ce_iconst (v := nI (2)) dL_kept_606 (by decide) ?_
                                  refine ce_laldv dL_kept_607 (hz17).k rfl (hz17).l (by decide) (by decide) (hz17).v2 ?_
                                  refine ce_lconst (v := lN 0) dL_kept_608 (by decide) ?_
                                  refine ce_lcmp (z := lg_cmp (lN (s2)) (lN (0))) dL_kept_609 rfl ?_
                                  refine ce_if_neL (a := s2) (b := 0) (tgt := 617) dL_kept_610 (by decide) rfl (by omega) (by omega) (fun c_610 => ?_) (fun c_610 => ?_)
                                  · omega
                                  · refine ce_iconst (v := nI (1)) dL_kept_613 (by decide) ?_
                                    refine ce_goto (tgt := 618) dL_kept_614 (by decide) ?_
                                    refine ce_istore dL_kept_618 (Nat.le_of_ble_eq_true rfl) rfl ?_
                                    refine ce_lload dL_kept_620 rfl ?_
                                    refine ce_aload dL_kept_622 rfl ?_
                                    refine ce_iconst (v := nI (2)) dL_kept_624 (by decide) ?_
                                    refine ce_laldv dL_kept_625 (hz17).k rfl (hz17).l (by decide) (by decide) (hz17).v2 ?_
                                    refine ce_ladd (z := lN (cz + (s2))) dL_kept_626 (lN_add _ _) ?_
                                    refine ce_lstore dL_kept_627 (Nat.le_of_ble_eq_true rfl) rfl ?_
                                    refine ce_lload dL_kept_629 rfl ?_
                                    refine ce_aload_n dL_kept_631 rfl ?_
                                    refine ce_iload dL_kept_632 rfl ?_
                                    refine ce_iconst (v := nI (5)) dL_kept_634 (by decide) ?_
                                    refine kc_Wj dL_kept_635 hL_wine kRL_127 (q_wine5 (hz17).w iv (w := wz) (by omega)) rfl rfl (by decide) (Nat.le_of_ble_eq_true rfl) rfl (by show _ ≤ 100; omega) ?_
                                    refine ce_ladd (z := lN (dz + (kv_sum (sK S) 10 (wz)))) dL_kept_638 (lN_add _ _) ?_
                                    refine ce_lstore dL_kept_639 (Nat.le_of_ble_eq_true rfl) rfl ?_
                                    refine ce_lload dL_kept_641 rfl ?_
                                    refine ce_aload_n dL_kept_643 rfl ?_
                                    refine ce_iload dL_kept_644 rfl ?_
                                    refine ce_bipush (v := nI (6)) dL_kept_646 (by decide) ?_
                                    refine kc_Wj dL_kept_648 hL_wine kRL_127 (q_wine6 (hz17).w iv (w := wz) (by omega)) rfl rfl (by decide) (Nat.le_of_ble_eq_true rfl) rfl (by show _ ≤ 100; omega) ?_
                                    refine ce_ladd (z := lN (fz + (sK S 6 (wz)))) dL_kept_651 (lN_add _ _) ?_
                                    refine ce_lstore dL_kept_652 (Nat.le_of_ble_eq_true rfl) rfl ?_
                                    refine ce_lload dL_kept_654 rfl ?_
                                    refine ce_aload_n dL_kept_656 rfl ?_
                                    refine ce_iload dL_kept_657 rfl ?_
                                    refine ce_iconst (v := nI (2)) dL_kept_659 (by decide) ?_
                                    refine kc_Wj dL_kept_660 hL_wine kRL_127 (q_wine2 (hz17).w iv (w := wz) (by omega)) rfl rfl (by decide) (Nat.le_of_ble_eq_true rfl) rfl (by show _ ≤ 100; omega) ?_
                                    refine ce_ladd (z := lN (rz + (sK S 4 (wz)))) dL_kept_663 (lN_add _ _) ?_
                                    refine ce_lstore dL_kept_664 (Nat.le_of_ble_eq_true rfl) rfl ?_
                                    refine ce_iinc (v := nI (wz + 1)) dL_kept_666 rfl (ce_inc1 _) (Nat.le_of_ble_eq_true rfl) rfl ?_
                                    refine ce_goto (tgt := 79) dL_kept_669 (by decide) ?_
                                    refine ce_drop (L' := [some (.ref (a)), some (.int (nI (sK S 0 0))), some (.int (nI (sK S 0 1))), some (.int (nI (sK S 0 2))), some (.int (nI (1))), some (.long (lN (cz + (s2)))), none, some (.long (lN (dz + (kv_sum (sK S) 10 (wz))))), none, some (.long (lN (fz + (sK S 6 (wz))))), none, some (.long (lN (rz + (sK S 4 (wz))))), none, some (.int (nI (wz + 1))), none, none, none, none, none, none, none, none, none, none, none, none]) (ce_le_s rfl (ce_le_s rfl (ce_le_s rfl (ce_le_s rfl (ce_le_s rfl (ce_le_s rfl (ce_le_n (ce_le_s rfl (ce_le_n (ce_le_s rfl (ce_le_n (ce_le_s rfl (ce_le_n (ce_le_s rfl (ce_le_n (ce_le_n (ce_le_n (ce_le_n (ce_le_n (ce_le_n (ce_le_n (ce_le_n (ce_le_n (ce_le_n (ce_le_n (ce_le_n ce_le_e)))))))))))))))))))))))))) ?_
                                    refine ce_forget (σ' := kz_s a σi cs1) (g' := kz_g σi gi cg1) rfl ((hz17).endf hf) ?_
                                    exact kk _ _ _ _ _ _ _ ((hz17).endw ht) (by omega) (by omega) (by omega) (by omega) (by omega)
                                · refine ce_aload dL_kept_592 rfl ?_
                                  refine ce_iconst (v := nI (1)) dL_kept_594 (by decide) ?_
                                  refine ce_laldv dL_kept_595 (hz17).k rfl (hz17).l (by decide) (by decide) (hz17).v1 ?_
                                  refine ce_lconst (v := lN 0) dL_kept_596 (by decide) ?_
                                  refine ce_lcmp (z := lg_cmp (lN (s1)) (lN (0))) dL_kept_597 rfl ?_
                                  refine ce_if_neL (a := s1) (b := 0) (tgt := 617) dL_kept_598 (by decide) rfl (by omega) (by omega) (fun c_598 => ?_) (fun c_598 => ?_)
                                  · omega
                                  · refine ce_goto (tgt := 613) dL_kept_601 (by decide) ?_
                                    refine ce_iconst (v := nI (1)) dL_kept_613 (by decide) ?_
                                    refine ce_goto (tgt := 618) dL_kept_614 (by decide) ?_
                                    refine ce_istore dL_kept_618 (Nat.le_of_ble_eq_true rfl) rfl ?_
                                    refine ce_lload dL_kept_620 rfl ?_
                                    refine ce_aload dL_kept_622 rfl ?_
                                    refine ce_iconst (v := nI (2)) dL_kept_624 (by decide) ?_
                                    refine ce_laldv dL_kept_625 (hz17).k rfl (hz17).l (by decide) (by decide) (hz17).v2 ?_
                                    refine ce_ladd (z := lN (cz + (s2))) dL_kept_626 (lN_add _ _) ?_
                                    refine ce_lstore dL_kept_627 (Nat.le_of_ble_eq_true rfl) rfl ?_
                                    refine ce_lload dL_kept_629 rfl ?_
                                    refine ce_aload_n dL_kept_631 rfl ?_
                                    refine ce_iload dL_kept_632 rfl ?_
                                    refine ce_iconst (v := nI (5)) dL_kept_634 (by decide) ?_
                                    refine kc_Wj dL_kept_635 hL_wine kRL_127 (q_wine5 (hz17).w iv (w := wz) (by omega)) rfl rfl (by decide) (Nat.le_of_ble_eq_true rfl) rfl (by show _ ≤ 100; omega) ?_
                                    refine ce_ladd (z := lN (dz + (kv_sum (sK S) 10 (wz)))) dL_kept_638 (lN_add _ _) ?_
                                    refine ce_lstore dL_kept_639 (Nat.le_of_ble_eq_true rfl) rfl ?_
                                    refine ce_lload dL_kept_641 rfl ?_
                                    refine ce_aload_n dL_kept_643 rfl ?_
                                    refine ce_iload dL_kept_644 rfl ?_
                                    refine ce_bipush (v := nI (6)) dL_kept_646 (by decide) ?_
                                    refine kc_Wj dL_kept_648 hL_wine kRL_127 (q_wine6 (hz17).w iv (w := wz) (by omega)) rfl rfl (by decide) (Nat.le_of_ble_eq_true rfl) rfl (by show _ ≤ 100; omega) ?_
                                    refine ce_ladd (z := lN (fz + (sK S 6 (wz)))) dL_kept_651 (lN_add _ _) ?_
                                    refine ce_lstore dL_kept_652 (Nat.le_of_ble_eq_true rfl) rfl ?_
                                    refine ce_lload dL_kept_654 rfl ?_
                                    refine ce_aload_n dL_kept_656 rfl ?_
                                    refine ce_iload dL_kept_657 rfl ?_
                                    refine ce_iconst (v := nI (2)) dL_kept_659 (by decide) ?_
                                    refine kc_Wj dL_kept_660 hL_wine kRL_127 (q_wine2 (hz17).w iv (w := wz) (by omega)) rfl rfl (by decide) (Nat.le_of_ble_eq_true rfl) rfl (by show _ ≤ 100; omega) ?_
                                    refine ce_ladd (z := lN (rz + (sK S 4 (wz)))) dL_kept_663 (lN_add _ _) ?_
                                    refine ce_lstore dL_kept_664 (Nat.le_of_ble_eq_true rfl) rfl ?_
                                    refine ce_iinc (v := nI (wz + 1)) dL_kept_666 rfl (ce_inc1 _) (Nat.le_of_ble_eq_true rfl) rfl ?_
                                    refine ce_goto (tgt := 79) dL_kept_669 (by decide) ?_
                                    refine ce_drop (L' := [some (.ref (a)), some (.int (nI (sK S 0 0))), some (.int (nI (sK S 0 1))), some (.int (nI (sK S 0 2))), some (.int (nI (1))), some (.long (lN (cz + (s2)))), none, some (.long (lN (dz + (kv_sum (sK S) 10 (wz))))), none, some (.long (lN (fz + (sK S 6 (wz))))), none, some (.long (lN (rz + (sK S 4 (wz))))), none, some (.int (nI (wz + 1))), none, none, none, none, none, none, none, none, none, none, none, none]) (ce_le_s rfl (ce_le_s rfl (ce_le_s rfl (ce_le_s rfl (ce_le_s rfl (ce_le_s rfl (ce_le_n (ce_le_s rfl (ce_le_n (ce_le_s rfl (ce_le_n (ce_le_s rfl (ce_le_n (ce_le_s rfl (ce_le_n (ce_le_n (ce_le_n (ce_le_n (ce_le_n (ce_le_n (ce_le_n (ce_le_n (ce_le_n (ce_le_n (ce_le_n (ce_le_n ce_le_e)))))))))))))))))))))))))) ?_
                                    refine ce_forget (σ' := kz_s a σi cs1) (g' := kz_g σi gi cg1) rfl ((hz17).endf hf) ?_
                                    exact kk _ _ _ _ _ _ _ ((hz17).endw ht) (by omega) (by omega) (by omega) (by omega) (by omega)
                            · omega
                          · exact absurd c_552.symm (n9_ne (by omega))
set_option maxHeartbeats 2000000 in
set_option maxRecDepth 20000 in
theorem kp_cn {a : Nat} {S : ks_S} (iv : kl_iv S) {Q : Option Value → ce_S → ce_D → Prop} {X : String → ce_S → ce_D → Prop} {σi σ : ce_S} {gi g : ce_D} {wz cz dz fz rz nb kz gz tz uz s0 s1 s2 : Nat} (ht : a + 411 ≤ σi.1) (hf : ce_kd σi σi.1 = 0) (hwz : wz < sK S 0 1) (hnb : nb ≤ 80) (h5 : sK S 5 wz ≠ 0) (hz : kz9 a S (ce_nw σi 14 3) (ce_nd σi gi) σi.1 s0 s1 s2 σ g) (e0 : s0 = ce_sum (fun mz => sK S 7 (mz * 6 + wz)) (sK S 0 0)) (e1 : s1 = ce_sum (fun mz => sK S 8 (mz * 6 + wz)) (sK S 0 0)) (e2 : s2 = ce_sum (fun mz => sK S 9 (mz * 6 + wz)) (sK S 0 0)) (eg : gz = 0) (et : tz = ce_sum (kv_bw (sK S) wz) (sK S 0 2)) (eu : uz = ce_sum (kv_room (sK S) wz) (sK S 0 2)) (hkz : kz ≤ nb + 7) (kk : ∀ (kz : Nat) (σ : ce_S) (g : ce_D) (c9 d9 f9 r9 : Nat), kw a S σi gi σ g → c9 = cz + kv_sum (sK S) 9 wz → d9 = dz + kv_sum (sK S) 10 wz → f9 = fz + sK S 6 wz → r9 = rz + sK S 4 wz → kz ≤ nb + 8 → ce_WP (ce_rl 1 100) mL_kept (kz) (6 * (kz)) 79 [some (.ref (a)), some (.int (nI (sK S 0 0))), some (.int (nI (sK S 0 1))), some (.int (nI (sK S 0 2))), some (.int (nI (1))), some (.long (lN (c9))), none, some (.long (lN (d9))), none, some (.long (lN (f9))), none, some (.long (lN (r9))), none, some (.int (nI (wz + 1))), none, none, none, none, none, none, none, none, none, none, none, none] [] σ g Q X) : ce_WP (ce_rl 1 100) mL_kept (kz) (6 * (kz)) 352 [some (.ref (a)), some (.int (nI (sK S 0 0))), some (.int (nI (sK S 0 1))), some (.int (nI (sK S 0 2))), some (.int (nI (1))), some (.long (lN (cz))), none, some (.long (lN (dz))), none, some (.long (lN (fz))), none, some (.long (lN (rz))), none, some (.int (nI (wz))), some (.ref (σi.1)), some (.long (lN (gz))), none, some (.int (nI (0))), some (.long (lN (tz))), none, some (.long (lN (uz))), none, none, none, none, none] [] σ g Q X := by
  have b9 := iv.ok.1.b
  have hs7 := kv_sum_m iv.ok.1 (a := 7) (w := wz) (by omega) (by omega)
  have hs8 := kv_sum_m iv.ok.1 (a := 8) (w := wz) (by omega) (by omega)
  have hs9 := kv_sum_m iv.ok.1 (a := 9) (w := wz) (by omega) (by omega)
  have hbw := kv_bw_B iv.ok.1 (w := wz) (by omega)
  have hbo := iv.ok.1.bo wz (by omega)
  have hb7 := iv.ok.1.b7 wz
  have hbr := iv.ok.1.bro wz
  have h5l := iv.ok.1.st wz
  have hz8 : sK S 5 wz ≠ 1 → kv_sum (sK S) 8 wz = 0 := fun h => ce_sum_z (fun m hm => iv.ok.1.z8 wz (by omega) h m hm)
  have hz9 : sK S 5 wz ≠ 2 → kv_sum (sK S) 9 wz = 0 := fun h => ce_sum_z (fun m hm => (iv.ok.1.z9 wz (by omega) h m hm).1)
  have hz10 : sK S 5 wz ≠ 2 → kv_sum (sK S) 10 wz = 0 := fun h => ce_sum_z (fun m hm => (iv.ok.1.z9 wz (by omega) h m hm).2)
  have hz6 : sK S 5 wz ≠ 2 → sK S 6 wz = 0 := fun h => iv.kj.1.1.2 wz (by omega) h
  refine ce_iload dL_kept_352 rfl ?_
  refine ce_if_eqN (tgt := 617) dL_kept_354 (by decide) rfl (by omega) (fun c_354 => ?_) (fun c_354 => ?_)
  · omega
  · refine ce_aload_n dL_kept_357 rfl ?_
    refine ce_iload dL_kept_358 rfl ?_
    refine ce_bipush (v := nI (8)) dL_kept_360 (by decide) ?_
    refine kc_Wj dL_kept_362 hL_wine kRL_127 (q_wine8 (hz).w iv (w := wz) (by omega)) rfl rfl (by decide) (Nat.le_of_ble_eq_true rfl) rfl (by show _ ≤ 100; omega) ?_
    refine ce_aload dL_kept_365 rfl ?_
    refine ce_iconst (v := nI (0)) dL_kept_367 (by decide) ?_
    refine ce_laldv dL_kept_368 (hz).k rfl (hz).l (by decide) (by decide) (hz).v0 ?_
    refine ce_lcmp (z := lg_cmp (lN (kv_sum (sK S) 7 (wz))) (lN (s0))) dL_kept_369 rfl ?_
    refine ce_if_neL (a := kv_sum (sK S) 7 (wz)) (b := s0) (tgt := 617) dL_kept_370 (by decide) rfl (by omega) (by omega) (fun c_370 => ?_) (fun c_370 => ?_)
    · omega
    · refine ce_aload_n dL_kept_373 rfl ?_
      refine ce_iload dL_kept_374 rfl ?_
      refine ce_bipush (v := nI (7)) dL_kept_376 (by decide) ?_
      refine kc_Wj dL_kept_378 hL_wine kRL_127 (q_wine7 (hz).w iv (w := wz) (by omega)) rfl rfl (by decide) (Nat.le_of_ble_eq_true rfl) rfl (by show _ ≤ 100; omega) ?_
      refine ce_aload dL_kept_381 rfl ?_
      refine ce_iconst (v := nI (1)) dL_kept_383 (by decide) ?_
      refine ce_laldv dL_kept_384 (hz).k rfl (hz).l (by decide) (by decide) (hz).v1 ?_
      refine ce_lcmp (z := lg_cmp (lN (kv_sum (sK S) 8 (wz))) (lN (s1))) dL_kept_385 rfl ?_
      refine ce_if_neL (a := kv_sum (sK S) 8 (wz)) (b := s1) (tgt := 617) dL_kept_386 (by decide) rfl (by omega) (by omega) (fun c_386 => ?_) (fun c_386 => ?_)
      · omega
      · refine ce_aload_n dL_kept_389 rfl ?_
        refine ce_iload dL_kept_390 rfl ?_
        refine ce_iconst (v := nI (4)) dL_kept_392 (by decide) ?_
        refine kc_Wj dL_kept_393 hL_wine kRL_127 (q_wine4 (hz).w iv (w := wz) (by omega)) rfl rfl (by decide) (Nat.le_of_ble_eq_true rfl) rfl (by show _ ≤ 100; omega) ?_
        refine ce_aload dL_kept_396 rfl ?_
        refine ce_iconst (v := nI (2)) dL_kept_398 (by decide) ?_
        refine ce_laldv dL_kept_399 (hz).k rfl (hz).l (by decide) (by decide) (hz).v2 ?_
        refine ce_lcmp (z := lg_cmp (lN (kv_sum (sK S) 9 (wz))) (lN (s2))) dL_kept_400 rfl ?_
        refine ce_if_neL (a := kv_sum (sK S) 9 (wz)) (b := s2) (tgt := 617) dL_kept_401 (by decide) rfl (by omega) (by omega) (fun c_401 => ?_) (fun c_401 => ?_)
        · omega
        · refine ce_lload dL_kept_404 rfl ?_
          refine ce_aload dL_kept_406 rfl ?_
          refine ce_iconst (v := nI (2)) dL_kept_408 (by decide) ?_
          refine ce_laldv dL_kept_409 (hz).k rfl (hz).l (by decide) (by decide) (hz).v2 ?_
          refine ce_lcmp (z := lg_cmp (lN (tz)) (lN (s2))) dL_kept_410 rfl ?_
          refine ce_if_neL (a := tz) (b := s2) (tgt := 617) dL_kept_411 (by decide) rfl (by omega) (by omega) (fun c_411 => ?_) (fun c_411 => ?_)
          · omega
          · refine ce_aload_n dL_kept_414 rfl ?_
            refine ce_iload dL_kept_415 rfl ?_
            refine kc_Wj dL_kept_417 hL_roomFor kRL_164 (q_room (hz).w iv (w := wz) (by omega)) rfl rfl (by decide) (Nat.le_of_ble_eq_true rfl) rfl (by show _ ≤ 100; omega) ?_
            refine ce_lload dL_kept_420 rfl ?_
            refine ce_lcmp (z := lg_cmp (lN (ce_sum (kv_room (sK S) (wz)) (sK S 0 2))) (lN (uz))) dL_kept_422 rfl ?_
            refine ce_if_neL (a := ce_sum (kv_room (sK S) (wz)) (sK S 0 2)) (b := uz) (tgt := 617) dL_kept_423 (by decide) rfl (by omega) (by omega) (fun c_423 => ?_) (fun c_423 => ?_)
            · omega
            · refine ce_aload_n dL_kept_426 rfl ?_
              refine ce_iload dL_kept_427 rfl ?_
              refine ce_iconst (v := nI (1)) dL_kept_429 (by decide) ?_
              refine kc_Wj dL_kept_430 hL_wine kRL_127 (q_wine1 (hz).w iv (w := wz) (by omega)) rfl rfl (by decide) (Nat.le_of_ble_eq_true rfl) rfl (by show _ ≤ 100; omega) ?_
              refine ce_aload_n dL_kept_433 rfl ?_
              refine ce_iload dL_kept_434 rfl ?_
              refine ce_iconst (v := nI (2)) dL_kept_436 (by decide) ?_
              refine kc_Wj dL_kept_437 hL_wine kRL_127 (q_wine2 (hz).w iv (w := wz) (by omega)) rfl rfl (by decide) (Nat.le_of_ble_eq_true rfl) rfl (by show _ ≤ 100; omega) ?_
              refine ce_aload dL_kept_440 rfl ?_
              refine ce_iconst (v := nI (1)) dL_kept_442 (by decide) ?_
              refine ce_laldv dL_kept_443 (hz).k rfl (hz).l (by decide) (by decide) (hz).v1 ?_
              refine ce_ladd (z := lN (sK S 4 (wz) + (s1))) dL_kept_444 (lN_add _ _) ?_
              refine ce_aload dL_kept_445 rfl ?_
              refine ce_iconst (v := nI (2)) dL_kept_447 (by decide) ?_
              refine ce_laldv dL_kept_448 (hz).k rfl (hz).l (by decide) (by decide) (hz).v2 ?_
              refine ce_ladd (z := lN (sK S 4 (wz) + (s1) + (s2))) dL_kept_449 (lN_add _ _) ?_
              refine ce_aload_n dL_kept_450 rfl ?_
              refine ce_iload dL_kept_451 rfl ?_
              refine ce_iconst (v := nI (5)) dL_kept_453 (by decide) ?_
              refine kc_Wj dL_kept_454 hL_wine kRL_127 (q_wine5 (hz).w iv (w := wz) (by omega)) rfl rfl (by decide) (Nat.le_of_ble_eq_true rfl) rfl (by show _ ≤ 100; omega) ?_
              refine ce_ladd (z := lN (sK S 4 (wz) + (s1) + (s2) + (kv_sum (sK S) 10 (wz)))) dL_kept_457 (lN_add _ _) ?_
              refine ce_aload_n dL_kept_458 rfl ?_
              refine ce_iload dL_kept_459 rfl ?_
              refine ce_bipush (v := nI (6)) dL_kept_461 (by decide) ?_
              refine kc_Wj dL_kept_463 hL_wine kRL_127 (q_wine6 (hz).w iv (w := wz) (by omega)) rfl rfl (by decide) (Nat.le_of_ble_eq_true rfl) rfl (by show _ ≤ 100; omega) ?_
              refine ce_ladd (z := lN (sK S 4 (wz) + (s1) + (s2) + (kv_sum (sK S) 10 (wz)) + (sK S 6 (wz)))) dL_kept_466 (lN_add _ _) ?_
              refine ce_lcmp (z := lg_cmp (lN (sK S 3 (wz))) (lN (sK S 4 (wz) + (s1) + (s2) + (kv_sum (sK S) 10 (wz)) + (sK S 6 (wz))))) dL_kept_467 rfl ?_
              refine ce_if_neL (a := sK S 3 (wz)) (b := sK S 4 (wz) + (s1) + (s2) + (kv_sum (sK S) 10 (wz)) + (sK S 6 (wz))) (tgt := 617) dL_kept_468 (by decide) rfl (by omega) (by omega) (fun c_468 => ?_) (fun c_468 => ?_)
              · omega
              · refine ce_iload dL_kept_471 rfl ?_
                refine ce_if_eqN (tgt := 578) dL_kept_473 (by decide) rfl (by omega) (fun c_473 => ?_) (fun c_473 => ?_)
                · refine ce_aload_n dL_kept_578 rfl ?_
                  refine ce_iload dL_kept_579 rfl ?_
                  refine ce_iconst (v := nI (3)) dL_kept_581 (by decide) ?_
                  refine kc_Wj dL_kept_582 hL_wine kRL_127 (q_wine3 (hz).w iv (w := wz) (by omega)) rfl rfl (by decide) (Nat.le_of_ble_eq_true rfl) rfl (by show _ ≤ 100; omega) ?_
                  refine ce_ldc2 (v := lN 2) dL_kept_585 kRL_191 ?_
                  refine ce_lcmp (z := lg_cmp (lN (sK S 5 (wz))) (lN (2))) dL_kept_588 rfl ?_
                  refine ce_if_neL (a := sK S 5 (wz)) (b := 2) (tgt := 604) dL_kept_589 (by decide) rfl (by omega) (by omega) (fun c_589 => ?_) (fun c_589 => ?_)
                  · refine ce_aload dL_kept_604 rfl ?_
                    refine ce_iconst (v := nI (2)) dL_kept_606 (by decide) ?_
                    refine ce_laldv dL_kept_607 (hz).k rfl (hz).l (by decide) (by decide) (hz).v2 ?_
                    refine ce_lconst (v := lN 0) dL_kept_608 (by decide) ?_
                    refine ce_lcmp (z := lg_cmp (lN (s2)) (lN (0))) dL_kept_609 rfl ?_
                    refine ce_if_neL (a := s2) (b := 0) (tgt := 617) dL_kept_610 (by decide) rfl (by omega) (by omega) (fun c_610 => ?_) (fun c_610 => ?_)
                    · omega
                    · refine ce_iconst (v := nI (1)) dL_kept_613 (by decide) ?_
                      refine ce_goto (tgt := 618) dL_kept_614 (by decide) ?_
                      refine ce_istore dL_kept_618 (Nat.le_of_ble_eq_true rfl) rfl ?_
                      refine ce_lload dL_kept_620 rfl ?_
                      refine ce_aload dL_kept_622 rfl ?_
                      refine ce_iconst (v := nI (2)) dL_kept_624 (by decide) ?_
                      refine ce_laldv dL_kept_625 (hz).k rfl (hz).l (by decide) (by decide) (hz).v2 ?_
                      refine ce_ladd (z := lN (cz + (s2))) dL_kept_626 (lN_add _ _) ?_
                      refine ce_lstore dL_kept_627 (Nat.le_of_ble_eq_true rfl) rfl ?_
                      refine ce_lload dL_kept_629 rfl ?_
                      refine ce_aload_n dL_kept_631 rfl ?_
                      refine ce_iload dL_kept_632 rfl ?_
                      refine ce_iconst (v := nI (5)) dL_kept_634 (by decide) ?_
                      refine kc_Wj dL_kept_635 hL_wine kRL_127 (q_wine5 (hz).w iv (w := wz) (by omega)) rfl rfl (by decide) (Nat.le_of_ble_eq_true rfl) rfl (by show _ ≤ 100; omega) ?_
                      refine ce_ladd (z := lN (dz + (kv_sum (sK S) 10 (wz)))) dL_kept_638 (lN_add _ _) ?_
                      refine ce_lstore dL_kept_639 (Nat.le_of_ble_eq_true rfl) rfl ?_
                      refine ce_lload dL_kept_641 rfl ?_
                      refine ce_aload_n dL_kept_643 rfl ?_
                      refine ce_iload dL_kept_644 rfl ?_
                      refine ce_bipush (v := nI (6)) dL_kept_646 (by decide) ?_
                      refine kc_Wj dL_kept_648 hL_wine kRL_127 (q_wine6 (hz).w iv (w := wz) (by omega)) rfl rfl (by decide) (Nat.le_of_ble_eq_true rfl) rfl (by show _ ≤ 100; omega) ?_
                      refine ce_ladd (z := lN (fz + (sK S 6 (wz)))) dL_kept_651 (lN_add _ _) ?_
                      refine ce_lstore dL_kept_652 (Nat.le_of_ble_eq_true rfl) rfl ?_
                      refine ce_lload dL_kept_654 rfl ?_
                      refine ce_aload_n dL_kept_656 rfl ?_
                      refine ce_iload dL_kept_657 rfl ?_
                      refine ce_iconst (v := nI (2)) dL_kept_659 (by decide) ?_
                      refine kc_Wj dL_kept_660 hL_wine kRL_127 (q_wine2 (hz).w iv (w := wz) (by omega)) rfl rfl (by decide) (Nat.le_of_ble_eq_true rfl) rfl (by show _ ≤ 100; omega) ?_
                      refine ce_ladd (z := lN (rz + (sK S 4 (wz)))) dL_kept_663 (lN_add _ _) ?_
                      refine ce_lstore dL_kept_664 (Nat.le_of_ble_eq_true rfl) rfl ?_
                      refine ce_iinc (v := nI (wz + 1)) dL_kept_666 rfl (ce_inc1 _) (Nat.le_of_ble_eq_true rfl) rfl ?_
                      refine ce_goto (tgt := 79) dL_kept_669 (by decide) ?_
                      refine ce_drop (L' := [some (.ref (a)), some (.int (nI (sK S 0 0))), some (.int (nI (sK S 0 1))), some (.int (nI (sK S 0 2))), some (.int (nI (1))), some (.long (lN (cz + (s2)))), none, some (.long (lN (dz + (kv_sum (sK S) 10 (wz))))), none, some (.long (lN (fz + (sK S 6 (wz))))), none, some (.long (lN (rz + (sK S 4 (wz))))), none, some (.int (nI (wz + 1))), none, none, none, none, none, none, none, none, none, none, none, none]) (ce_le_s rfl (ce_le_s rfl (ce_le_s rfl (ce_le_s rfl (ce_le_s rfl (ce_le_s rfl (ce_le_n (ce_le_s rfl (ce_le_n (ce_le_s rfl (ce_le_n (ce_le_s rfl (ce_le_n (ce_le_s rfl (ce_le_n (ce_le_n (ce_le_n (ce_le_n (ce_le_n (ce_le_n (ce_le_n (ce_le_n (ce_le_n (ce_le_n (ce_le_n (ce_le_n ce_le_e)))))))))))))))))))))))))) ?_
                      refine ce_forget (σ' := kz_s a σi σ) (g' := kz_g σi gi g) rfl ((hz).endf hf) ?_
                      exact kk _ _ _ _ _ _ _ ((hz).endw ht) (by omega) (by omega) (by omega) (by omega) (by omega)
                  · refine ce_aload dL_kept_592 rfl ?_
                    refine ce_iconst (v := nI (1)) dL_kept_594 (by decide) ?_
                    refine ce_laldv dL_kept_595 (hz).k rfl (hz).l (by decide) (by decide) (hz).v1 ?_
                    refine ce_lconst (v := lN 0) dL_kept_596 (by decide) ?_
                    refine ce_lcmp (z := lg_cmp (lN (s1)) (lN (0))) dL_kept_597 rfl ?_
                    refine ce_if_neL (a := s1) (b := 0) (tgt := 617) dL_kept_598 (by decide) rfl (by omega) (by omega) (fun c_598 => ?_) (fun c_598 => ?_)
                    · omega
                    · refine ce_goto (tgt := 613) dL_kept_601 (by decide) ?_
                      refine ce_iconst (v := nI (1)) dL_kept_613 (by decide) ?_
                      refine ce_goto (tgt := 618) dL_kept_614 (by decide) ?_
                      refine ce_istore dL_kept_618 (Nat.le_of_ble_eq_true rfl) rfl ?_
                      refine ce_lload dL_kept_620 rfl ?_
                      refine ce_aload dL_kept_622 rfl ?_
                      refine ce_iconst (v := nI (2)) dL_kept_624 (by decide) ?_
                      refine ce_laldv dL_kept_625 (hz).k rfl (hz).l (by decide) (by decide) (hz).v2 ?_
                      refine ce_ladd (z := lN (cz + (s2))) dL_kept_626 (lN_add _ _) ?_
                      refine ce_lstore dL_kept_627 (Nat.le_of_ble_eq_true rfl) rfl ?_
                      refine ce_lload dL_kept_629 rfl ?_
                      refine ce_aload_n dL_kept_631 rfl ?_
                      refine ce_iload dL_kept_632 rfl ?_
                      refine ce_iconst (v := nI (5)) dL_kept_634 (by decide) ?_
                      refine kc_Wj dL_kept_635 hL_wine kRL_127 (q_wine5 (hz).w iv (w := wz) (by omega)) rfl rfl (by decide) (Nat.le_of_ble_eq_true rfl) rfl (by show _ ≤ 100; omega) ?_
                      refine ce_ladd (z := lN (dz + (kv_sum (sK S) 10 (wz)))) dL_kept_638 (lN_add _ _) ?_
                      refine ce_lstore dL_kept_639 (Nat.le_of_ble_eq_true rfl) rfl ?_
                      refine ce_lload dL_kept_641 rfl ?_
                      refine ce_aload_n dL_kept_643 rfl ?_
                      refine ce_iload dL_kept_644 rfl ?_
                      refine ce_bipush (v := nI (6)) dL_kept_646 (by decide) ?_
                      refine kc_Wj dL_kept_648 hL_wine kRL_127 (q_wine6 (hz).w iv (w := wz) (by omega)) rfl rfl (by decide) (Nat.le_of_ble_eq_true rfl) rfl (by show _ ≤ 100; omega) ?_
                      refine ce_ladd (z := lN (fz + (sK S 6 (wz)))) dL_kept_651 (lN_add _ _) ?_
                      refine ce_lstore dL_kept_652 (Nat.le_of_ble_eq_true rfl) rfl ?_
                      refine ce_lload dL_kept_654 rfl ?_
                      refine ce_aload_n dL_kept_656 rfl ?_
                      refine ce_iload dL_kept_657 rfl ?_
                      refine ce_iconst (v := nI (2)) dL_kept_659 (by decide) ?_
                      refine kc_Wj dL_kept_660 hL_wine kRL_127 (q_wine2 (hz).w iv (w := wz) (by omega)) rfl rfl (by decide) (Nat.le_of_ble_eq_true rfl) rfl (by show _ ≤ 100; omega) ?_
                      refine ce_ladd (z := lN (rz + (sK S 4 (wz)))) dL_kept_663 (lN_add _ _) ?_
                      refine ce_lstore dL_kept_664 (Nat.le_of_ble_eq_true rfl) rfl ?_
                      refine ce_iinc (v := nI (wz + 1)) dL_kept_666 rfl (ce_inc1 _) (Nat.le_of_ble_eq_true rfl) rfl ?_
                      refine ce_goto (tgt := 79) dL_kept_669 (by decide) ?_
                      refine ce_drop (L' := [some (.ref (a)), some (.int (nI (sK S 0 0))), some (.int (nI (sK S 0 1))), some (.int (nI (sK S 0 2))), some (.int (nI (1))), some (.long (lN (cz + (s2)))), none, some (.long (lN (dz + (kv_sum (sK S) 10 (wz))))), none, some (.long (lN (fz + (sK S 6 (wz))))), none, some (.long (lN (rz + (sK S 4 (wz))))), none, some (.int (nI (wz + 1))), none, none, none, none, none, none, none, none, none, none, none, none]) (ce_le_s rfl (ce_le_s rfl (ce_le_s rfl (ce_le_s rfl (ce_le_s rfl (ce_le_s rfl (ce_le_n (ce_le_s rfl (ce_le_n (ce_le_s rfl (ce_le_n (ce_le_s rfl (ce_le_n (ce_le_s rfl (ce_le_n (ce_le_n (ce_le_n (ce_le_n (ce_le_n (ce_le_n (ce_le_n (ce_le_n (ce_le_n (ce_le_n (ce_le_n (ce_le_n ce_le_e)))))))))))))))))))))))))) ?_
                      refine ce_forget (σ' := kz_s a σi σ) (g' := kz_g σi gi g) rfl ((hz).endf hf) ?_
                      exact kk _ _ _ _ _ _ _ ((hz).endw ht) (by omega) (by omega) (by omega) (by omega) (by omega)
                · omega
set_option maxHeartbeats 2000000 in
set_option maxRecDepth 20000 in
theorem kp_k {a : Nat} {S : ks_S} (iv : kl_iv S) {Q : Option Value → ce_S → ce_D → Prop} {X : String → ce_S → ce_D → Prop} {σ0 : ce_S} {g0 : ce_D} (ht : a + 411 ≤ σ0.1) (kk : ∀ (kz : Nat) (σ : ce_S) (g : ce_D) (cz dz fz rz : Nat), kw a S σ0 g0 σ g → cz = ce_sum (kv_sum (sK S) 9) (sK S 0 1) → dz = ce_sum (kv_sum (sK S) 10) (sK S 0 1) → fz = ce_sum (sK S 6) (sK S 0 1) → rz = ce_sum (sK S 4) (sK S 0 1) → kz ≤ 60 → ce_WP (ce_rl 1 100) mL_kept (kz) (6 * (kz)) 672 [some (.ref (a)), some (.int (nI (sK S 0 0))), some (.int (nI (sK S 0 1))), some (.int (nI (sK S 0 2))), some (.int (nI (1))), some (.long (lN (cz))), none, some (.long (lN (dz))), none, some (.long (lN (fz))), none, some (.long (lN (rz))), none, none, none, none, none, none, none, none, none, none, none, none, none, none] [] σ g Q X) : ∀ (n9 wz kz : Nat) (σ : ce_S) (g : ce_D) (cz dz fz rz : Nat), kw a S σ0 g0 σ g → sK S 0 1 - wz < n9 → wz ≤ sK S 0 1 → cz = ce_sum (kv_sum (sK S) 9) wz → dz = ce_sum (kv_sum (sK S) 10) wz → fz = ce_sum (sK S 6) wz → rz = ce_sum (sK S 4) wz → kz ≤ 10 * wz → ce_WP (ce_rl 1 100) mL_kept (kz) (6 * (kz)) 79 [some (.ref (a)), some (.int (nI (sK S 0 0))), some (.int (nI (sK S 0 1))), some (.int (nI (sK S 0 2))), some (.int (nI (1))), some (.long (lN (cz))), none, some (.long (lN (dz))), none, some (.long (lN (fz))), none, some (.long (lN (rz))), none, some (.int (nI (wz))), none, none, none, none, none, none, none, none, none, none, none, none] [] σ g Q X := by
  have b9 := iv.ok.1.b
  intro n9
  induction n9 with
  | zero =>
    intros
    omega
  | succ n9 ih =>
    intro wz kz σ g cz dz fz rz hw hm hi ec ed ef er hkz
    refine ce_iload dL_kept_79 rfl ?_
    refine ce_iload_n dL_kept_81 rfl ?_
    refine ce_icmp_geN (tgt := 672) dL_kept_82 (by decide) rfl rfl (by omega) (by omega) (fun c_82 => ?_) (fun c_82 => ?_)
    · have e9 : wz = sK S 0 1 := by omega
      subst e9
      refine ce_drop (L' := [some (.ref (a)), some (.int (nI (sK S 0 0))), some (.int (nI (sK S 0 1))), some (.int (nI (sK S 0 2))), some (.int (nI (1))), some (.long (lN (cz))), none, some (.long (lN (dz))), none, some (.long (lN (fz))), none, some (.long (lN (rz))), none, none, none, none, none, none, none, none, none, none, none, none, none, none]) (ce_le_s rfl (ce_le_s rfl (ce_le_s rfl (ce_le_s rfl (ce_le_s rfl (ce_le_s rfl (ce_le_n (ce_le_s rfl (ce_le_n (ce_le_s rfl (ce_le_n (ce_le_s rfl (ce_le_n (ce_le_n (ce_le_n (ce_le_n (ce_le_n (ce_le_n (ce_le_n (ce_le_n (ce_le_n (ce_le_n (ce_le_n (ce_le_n (ce_le_n (ce_le_n ce_le_e)))))))))))))))))))))))))) ?_
      exact kk _ _ _ _ _ _ _ hw ec ed ef er (by omega)
    · refine ce_iload dL_kept_85 rfl ?_
      refine ce_if_eqN (tgt := 672) dL_kept_87 (by decide) rfl (by omega) (fun c_87 => ?_) (fun c_87 => ?_)
      · omega
      · refine ce_iconst (v := nI (3)) dL_kept_90 (by decide) ?_
        refine kc_newJ dL_kept_91 rfl (by show _ ≤ 100; omega) (fun hf => ?_)
        have hsi : σ0.1 ≤ σ.1 := hw.s.1
        have hz := kz9.start hw (by omega)
        refine ce_astore dL_kept_93 (Nat.le_of_ble_eq_true rfl) rfl ?_
        refine ce_lconst (v := lN 0) dL_kept_95 (by decide) ?_
        refine ce_lstore dL_kept_96 (Nat.le_of_ble_eq_true rfl) rfl ?_
        refine ce_aload_n dL_kept_98 rfl ?_
        refine ce_iload dL_kept_99 rfl ?_
        refine ce_iconst (v := nI (3)) dL_kept_101 (by decide) ?_
        refine kc_Wj dL_kept_102 hL_wine kRL_127 (q_wine3 (hz).w iv (w := wz) (by omega)) rfl rfl (by decide) (Nat.le_of_ble_eq_true rfl) rfl (by show _ ≤ 100; omega) ?_
        have h5l := iv.ok.1.st wz
        refine ce_lconst (v := lN 0) dL_kept_105 (by decide) ?_
        refine ce_lcmp (z := lg_cmp (lN (sK S 5 (wz))) (lN (0))) dL_kept_106 rfl ?_
        refine ce_if_neL (a := sK S 5 (wz)) (b := 0) (tgt := 114) dL_kept_107 (by decide) rfl (by omega) (by omega) (fun c_107 => ?_) (fun c_107 => ?_)
        · refine ce_iconst (v := nI (0)) dL_kept_114 (by decide) ?_
          refine ce_istore dL_kept_115 (Nat.le_of_ble_eq_true rfl) rfl ?_
          refine ce_iconst (v := nI (0)) dL_kept_117 (by decide) ?_
          refine ce_istore dL_kept_118 (Nat.le_of_ble_eq_true rfl) rfl ?_
          refine kp_in iv (nb := 10 * wz + 1) (by omega) (by omega) c_107 (fun k2 σ2 g2 s0 s1 s2 gz hz2 e0 e1 e2 eg hk2 => ?_) (sK S 0 0 + 1) 0 _ _ _ _ _ _ _ hz (by omega) (by omega) rfl rfl rfl rfl (by omega)
          refine ce_lconst (v := lN 0) dL_kept_249 (by decide) ?_
          refine ce_lstore dL_kept_250 (Nat.le_of_ble_eq_true rfl) rfl ?_
          refine ce_lconst (v := lN 0) dL_kept_252 (by decide) ?_
          refine ce_lstore dL_kept_253 (Nat.le_of_ble_eq_true rfl) rfl ?_
          refine ce_iconst (v := nI (0)) dL_kept_255 (by decide) ?_
          refine ce_istore dL_kept_256 (Nat.le_of_ble_eq_true rfl) rfl ?_
          refine kp_b iv (by omega) (by omega) hz2 (fun tz uz et eu => ?_) (sK S 0 2 + 1) 0 0 0 (by omega) (by omega) rfl rfl
          exact kp_cn iv (nb := 10 * wz + 1) (by omega) hf (by omega) (by omega) c_107 hz2 e0 e1 e2 eg et eu (by omega) (fun k3 σ3 g3 c9 d9 f9 r9 hw3 h1 h2 h3 h4 hk3 => ih (wz + 1) _ _ _ _ _ _ _ (hw.tr hw3) (by omega) (by omega) (by show _ = ce_sum (kv_sum (sK S) 9) wz + kv_sum (sK S) 9 wz; omega) (by show _ = ce_sum (kv_sum (sK S) 10) wz + kv_sum (sK S) 10 wz; omega) (by show _ = ce_sum (sK S 6) wz + sK S 6 wz; omega) (by show _ = ce_sum (sK S 4) wz + sK S 4 wz; omega) (by omega))
        · refine ce_iconst (v := nI (1)) dL_kept_110 (by decide) ?_
          refine ce_goto (tgt := 115) dL_kept_111 (by decide) ?_
          refine ce_istore dL_kept_115 (Nat.le_of_ble_eq_true rfl) rfl ?_
          refine ce_iconst (v := nI (0)) dL_kept_117 (by decide) ?_
          refine ce_istore dL_kept_118 (Nat.le_of_ble_eq_true rfl) rfl ?_
          refine kp_io iv (nb := 10 * wz + 1) (by omega) (by omega) c_107 (fun k2 σ2 g2 s0 s1 s2 gz hz2 e0 e1 e2 eg hk2 => ?_) (sK S 0 0 + 1) 0 _ _ _ _ _ _ _ hz (by omega) (by omega) rfl rfl rfl rfl (by omega)
          refine ce_lconst (v := lN 0) dL_kept_249 (by decide) ?_
          refine ce_lstore dL_kept_250 (Nat.le_of_ble_eq_true rfl) rfl ?_
          refine ce_lconst (v := lN 0) dL_kept_252 (by decide) ?_
          refine ce_lstore dL_kept_253 (Nat.le_of_ble_eq_true rfl) rfl ?_
          refine ce_iconst (v := nI (0)) dL_kept_255 (by decide) ?_
          refine ce_istore dL_kept_256 (Nat.le_of_ble_eq_true rfl) rfl ?_
          refine kp_b iv (by omega) (by omega) hz2 (fun tz uz et eu => ?_) (sK S 0 2 + 1) 0 0 0 (by omega) (by omega) rfl rfl
          exact kp_co iv (nb := 10 * wz + 1) (by omega) hf (by omega) (by omega) c_107 hz2 e0 e1 e2 eg et eu (by omega) (fun k3 σ3 g3 c9 d9 f9 r9 hw3 h1 h2 h3 h4 hk3 => ih (wz + 1) _ _ _ _ _ _ _ (hw.tr hw3) (by omega) (by omega) (by show _ = ce_sum (kv_sum (sK S) 9) wz + kv_sum (sK S) 9 wz; omega) (by show _ = ce_sum (kv_sum (sK S) 10) wz + kv_sum (sK S) 10 wz; omega) (by show _ = ce_sum (sK S 6) wz + sK S 6 wz; omega) (by show _ = ce_sum (sK S 4) wz + sK S 4 wz; omega) (by omega))
set_option maxHeartbeats 2000000 in
set_option maxRecDepth 20000 in
theorem kp_e {a : Nat} {S : ks_S} (iv : kl_iv S) {Q : Option Value → ce_S → ce_D → Prop} {X : String → ce_S → ce_D → Prop} {σ0 σ : ce_S} {g0 g : ce_D} {cz dz fz rz kz : Nat} (hw : kw a S σ0 g0 σ g) (hkz : kz ≤ 100) (kk : ∀ (xz vz uz : Nat), xz = kv_emp (sK S) (sK S 0 2) → vz = ce_sum (fun b => sK S 11 b - sK S 12 b) (sK S 0 2) → uz = ce_sum (fun b => if 0 < sK S 12 b then 1 else 0) (sK S 0 2) → ce_WP (ce_rl 1 100) mL_kept (kz) (6 * (kz)) 816 [some (.ref (a)), some (.int (nI (sK S 0 0))), some (.int (nI (sK S 0 1))), some (.int (nI (sK S 0 2))), some (.int (nI (1))), some (.long (lN (cz))), none, some (.long (lN (dz))), none, some (.long (lN (fz))), none, some (.long (lN (rz))), none, some (.long (lN (xz))), none, some (.long (lN (vz))), none, some (.long (lN (uz))), none, none, none, none, none, none, none, none] [] σ g Q X) : ∀ (n9 iz xz vz uz : Nat), sK S 0 2 - iz < n9 → iz ≤ sK S 0 2 → xz = kv_emp (sK S) iz → vz = ce_sum (fun b => sK S 11 b - sK S 12 b) iz → uz = ce_sum (fun b => if 0 < sK S 12 b then 1 else 0) iz → ce_WP (ce_rl 1 100) mL_kept (kz) (6 * (kz)) 684 [some (.ref (a)), some (.int (nI (sK S 0 0))), some (.int (nI (sK S 0 1))), some (.int (nI (sK S 0 2))), some (.int (nI (1))), some (.long (lN (cz))), none, some (.long (lN (dz))), none, some (.long (lN (fz))), none, some (.long (lN (rz))), none, some (.long (lN (xz))), none, some (.long (lN (vz))), none, some (.long (lN (uz))), none, some (.int (nI (iz))), none, none, none, none, none, none] [] σ g Q X := by
  have b9 := iv.ok.1.b
  intro n9
  induction n9 with
  | zero =>
    intros
    omega
  | succ n9 ih =>
    intro iz xz vz uz hm hi ex ev eu
    refine ce_iload dL_kept_684 rfl ?_
    refine ce_iload_n dL_kept_686 rfl ?_
    refine ce_icmp_geN (tgt := 816) dL_kept_687 (by decide) rfl rfl (by omega) (by omega) (fun c_687 => ?_) (fun c_687 => ?_)
    · have e9 : iz = sK S 0 2 := by omega
      subst e9
      refine ce_drop (L' := [some (.ref (a)), some (.int (nI (sK S 0 0))), some (.int (nI (sK S 0 1))), some (.int (nI (sK S 0 2))), some (.int (nI (1))), some (.long (lN (cz))), none, some (.long (lN (dz))), none, some (.long (lN (fz))), none, some (.long (lN (rz))), none, some (.long (lN (xz))), none, some (.long (lN (vz))), none, some (.long (lN (uz))), none, none, none, none, none, none, none, none]) (ce_le_s rfl (ce_le_s rfl (ce_le_s rfl (ce_le_s rfl (ce_le_s rfl (ce_le_s rfl (ce_le_n (ce_le_s rfl (ce_le_n (ce_le_s rfl (ce_le_n (ce_le_s rfl (ce_le_n (ce_le_s rfl (ce_le_n (ce_le_s rfl (ce_le_n (ce_le_s rfl (ce_le_n (ce_le_n (ce_le_n (ce_le_n (ce_le_n (ce_le_n (ce_le_n (ce_le_n ce_le_e)))))))))))))))))))))))))) ?_
      exact kk _ _ _ ex ev eu
    · refine ce_iload dL_kept_690 rfl ?_
      refine ce_if_eqN (tgt := 816) dL_kept_692 (by decide) rfl (by omega) (fun c_692 => ?_) (fun c_692 => ?_)
      · omega
      · have hrk := iv.ok.1.rk.2.1 iz
        have hr13 := iv.ok.1.rk.2.2.2.1 iz
        rcases Nat.eq_zero_or_pos (sK S 12 iz) with hA | hA
        · have hif : (if sK S 12 iz = 0 then 1 else 0) = 1 := if_pos hA
          have hig : (if 0 < sK S 12 iz then 1 else 0) = 0 := if_neg (by omega)
          refine ce_aload_n dL_kept_695 rfl ?_
          refine ce_iload dL_kept_696 rfl ?_
          refine ce_iconst (v := nI (2)) dL_kept_698 (by decide) ?_
          refine kc_Wj dL_kept_699 hL_bin kRL_129 (q_bin2 hw iv (i := iz) (by omega)) rfl rfl (by decide) (Nat.le_of_ble_eq_true rfl) rfl (by show _ ≤ 100; omega) ?_
          refine ce_lstore dL_kept_702 (Nat.le_of_ble_eq_true rfl) rfl ?_
          refine ce_lload dL_kept_704 rfl ?_
          refine ce_lload dL_kept_706 rfl ?_
          refine ce_lconst (v := lN 0) dL_kept_708 (by decide) ?_
          refine ce_lcmp (z := lg_cmp (lN (sK S 12 (iz))) (lN (0))) dL_kept_709 rfl ?_
          refine ce_if_neL (a := sK S 12 (iz)) (b := 0) (tgt := 717) dL_kept_710 (by decide) rfl (by omega) (by omega) (fun c_710 => ?_) (fun c_710 => ?_)
          · omega
          · refine ce_lconst (v := lN 1) dL_kept_713 (by decide) ?_
            refine ce_goto (tgt := 718) dL_kept_714 (by decide) ?_
            refine ce_ladd (z := lN (xz + (1))) dL_kept_718 (lN_add _ _) ?_
            refine ce_lstore dL_kept_719 (Nat.le_of_ble_eq_true rfl) rfl ?_
            refine ce_lload dL_kept_721 rfl ?_
            refine ce_lload dL_kept_723 rfl ?_
            refine ce_lconst (v := lN 0) dL_kept_725 (by decide) ?_
            refine ce_lcmp (z := lg_cmp (lN (sK S 12 (iz))) (lN (0))) dL_kept_726 rfl ?_
            refine ce_if_leL (a := sK S 12 (iz)) (b := 0) (tgt := 734) dL_kept_727 (by decide) rfl (by omega) (by omega) (fun c_727 => ?_) (fun c_727 => ?_)
            · refine ce_lconst (v := lN 0) dL_kept_734 (by decide) ?_
              refine ce_ladd (z := lN (uz + (0))) dL_kept_735 (lN_add _ _) ?_
              refine ce_lstore dL_kept_736 (Nat.le_of_ble_eq_true rfl) rfl ?_
              refine ce_lload dL_kept_738 rfl ?_
              refine ce_aload_n dL_kept_740 rfl ?_
              refine ce_iload dL_kept_741 rfl ?_
              refine ce_iconst (v := nI (0)) dL_kept_743 (by decide) ?_
              refine kc_Wj dL_kept_744 hL_bin kRL_129 (q_bin0 hw iv (i := iz) (by omega)) rfl rfl (by decide) (Nat.le_of_ble_eq_true rfl) rfl (by show _ ≤ 100; omega) ?_
              refine ce_lload dL_kept_747 rfl ?_
              refine ce_lsub (z := lN (sK S 11 (iz) - (sK S 12 (iz)))) dL_kept_749 (lN_sub (by omega)) ?_
              refine ce_ladd (z := lN (vz + (sK S 11 (iz) - (sK S 12 (iz))))) dL_kept_750 (lN_add _ _) ?_
              refine ce_lstore dL_kept_751 (Nat.le_of_ble_eq_true rfl) rfl ?_
              refine ce_lload dL_kept_753 rfl ?_
              refine ce_lconst (v := lN 0) dL_kept_755 (by decide) ?_
              refine ce_aload_n dL_kept_756 rfl ?_
              refine ce_iload dL_kept_757 rfl ?_
              refine ce_iconst (v := nI (0)) dL_kept_759 (by decide) ?_
              refine kc_Wj dL_kept_760 hL_bin kRL_129 (q_bin0 hw iv (i := iz) (by omega)) rfl rfl (by decide) (Nat.le_of_ble_eq_true rfl) rfl (by show _ ≤ 100; omega) ?_
              refine kc_Sp dL_kept_763 hL_in kRL_185 (m_L_in (sK S 12 (iz)) (0) (sK S 11 (iz)) (by omega) (by omega) (by omega)) rfl rfl (by decide) (Nat.le_of_ble_eq_true rfl) rfl (by show _ ≤ 100; omega) ?_
              refine ce_if_eqN (tgt := 807) dL_kept_766 (by decide) rfl (by omega) (fun c_766 => ?_) (fun c_766 => ?_)
              · omega
              · refine ce_lload dL_kept_769 rfl ?_
                refine ce_lconst (v := lN 0) dL_kept_771 (by decide) ?_
                refine ce_lcmp (z := lg_cmp (lN (sK S 12 (iz))) (lN (0))) dL_kept_772 rfl ?_
                refine ce_if_neL (a := sK S 12 (iz)) (b := 0) (tgt := 780) dL_kept_773 (by decide) rfl (by omega) (by omega) (fun c_773 => ?_) (fun c_773 => ?_)
                · omega
                · refine ce_iconst (v := nI (1)) dL_kept_776 (by decide) ?_
                  refine ce_goto (tgt := 781) dL_kept_777 (by decide) ?_
                  refine ce_aload_n dL_kept_781 rfl ?_
                  refine ce_iload dL_kept_782 rfl ?_
                  refine ce_iconst (v := nI (1)) dL_kept_784 (by decide) ?_
                  refine kc_Wj dL_kept_785 hL_bin kRL_129 (q_bin1A hw iv (i := iz) (by omega) hA) rfl rfl (by decide) (Nat.le_of_ble_eq_true rfl) rfl (by show _ ≤ 100; omega) ?_
                  refine ce_ldc2 dL_kept_788 kRL_160 ?_
                  refine ce_lcmp (z := lg_cmp ((-99999 : Int64)) ((-99999 : Int64))) dL_kept_791 rfl ?_
                  refine ce_if_neC (tgt := 799) dL_kept_792 (by decide) rfl (fun c_792 => ?_) (fun c_792 => ?_)
                  · exact absurd rfl c_792
                  · refine ce_iconst (v := nI (1)) dL_kept_795 (by decide) ?_
                    refine ce_goto (tgt := 800) dL_kept_796 (by decide) ?_
                    refine ce_icmp_neN (tgt := 807) dL_kept_800 (by decide) rfl rfl (by omega) (by omega) (fun c_800 => ?_) (fun c_800 => ?_)
                    · omega
                    · refine ce_iconst (v := nI (1)) dL_kept_803 (by decide) ?_
                      refine ce_goto (tgt := 808) dL_kept_804 (by decide) ?_
                      refine ce_istore dL_kept_808 (Nat.le_of_ble_eq_true rfl) rfl ?_
                      refine ce_iinc (v := nI (iz + 1)) dL_kept_810 rfl (ce_inc1 _) (Nat.le_of_ble_eq_true rfl) rfl ?_
                      refine ce_goto (tgt := 684) dL_kept_813 (by decide) ?_
                      refine ce_drop (L' := [some (.ref (a)), some (.int (nI (sK S 0 0))), some (.int (nI (sK S 0 1))), some (.int (nI (sK S 0 2))), some (.int (nI (1))), some (.long (lN (cz))), none, some (.long (lN (dz))), none, some (.long (lN (fz))), none, some (.long (lN (rz))), none, some (.long (lN (xz + (1)))), none, some (.long (lN (vz + (sK S 11 (iz) - (sK S 12 (iz)))))), none, some (.long (lN (uz + (0)))), none, some (.int (nI (iz + 1))), none, none, none, none, none, none]) (ce_le_s rfl (ce_le_s rfl (ce_le_s rfl (ce_le_s rfl (ce_le_s rfl (ce_le_s rfl (ce_le_n (ce_le_s rfl (ce_le_n (ce_le_s rfl (ce_le_n (ce_le_s rfl (ce_le_n (ce_le_s rfl (ce_le_n (ce_le_s rfl (ce_le_n (ce_le_s rfl (ce_le_n (ce_le_s rfl (ce_le_n (ce_le_n (ce_le_n (ce_le_n (ce_le_n (ce_le_n ce_le_e)))))))))))))))))))))))))) ?_
                      exact ih (iz + 1) _ _ _ (by omega) (by omega) (by show _ = kv_emp (sK S) iz + (if sK S 12 iz = 0 then 1 else 0); omega) (by show _ = ce_sum (fun b => sK S 11 b - sK S 12 b) iz + (sK S 11 iz - sK S 12 iz); omega) (by show _ = ce_sum (fun b => if 0 < sK S 12 b then 1 else 0) iz + (if 0 < sK S 12 iz then 1 else 0); omega)
            · omega
        · have hif : (if sK S 12 iz = 0 then 1 else 0) = 0 := if_neg (by omega)
          have hig : (if 0 < sK S 12 iz then 1 else 0) = 1 := if_pos hA
          refine ce_aload_n dL_kept_695 rfl ?_
          refine ce_iload dL_kept_696 rfl ?_
          refine ce_iconst (v := nI (2)) dL_kept_698 (by decide) ?_
          refine kc_Wj dL_kept_699 hL_bin kRL_129 (q_bin2 hw iv (i := iz) (by omega)) rfl rfl (by decide) (Nat.le_of_ble_eq_true rfl) rfl (by show _ ≤ 100; omega) ?_
          refine ce_lstore dL_kept_702 (Nat.le_of_ble_eq_true rfl) rfl ?_
          refine ce_lload dL_kept_704 rfl ?_
          refine ce_lload dL_kept_706 rfl ?_
          refine ce_lconst (v := lN 0) dL_kept_708 (by decide) ?_
          refine ce_lcmp (z := lg_cmp (lN (sK S 12 (iz))) (lN (0))) dL_kept_709 rfl ?_
          refine ce_if_neL (a := sK S 12 (iz)) (b := 0) (tgt := 717) dL_kept_710 (by decide) rfl (by omega) (by omega) (fun c_710 => ?_) (fun c_710 => ?_)
          · refine ce_lconst (v := lN 0) dL_kept_717 (by decide) ?_
            refine ce_ladd (z := lN (xz + (0))) dL_kept_718 (lN_add _ _) ?_
            refine ce_lstore dL_kept_719 (Nat.le_of_ble_eq_true rfl) rfl ?_
            refine ce_lload dL_kept_721 rfl ?_
            refine ce_lload dL_kept_723 rfl ?_
            refine ce_lconst (v := lN 0) dL_kept_725 (by decide) ?_
            refine ce_lcmp (z := lg_cmp (lN (sK S 12 (iz))) (lN (0))) dL_kept_726 rfl ?_
            refine ce_if_leL (a := sK S 12 (iz)) (b := 0) (tgt := 734) dL_kept_727 (by decide) rfl (by omega) (by omega) (fun c_727 => ?_) (fun c_727 => ?_)
            · omega
            · refine ce_lconst (v := lN 1) dL_kept_730 (by decide) ?_
              refine ce_goto (tgt := 735) dL_kept_731 (by decide) ?_
              refine ce_ladd (z := lN (uz + (1))) dL_kept_735 (lN_add _ _) ?_
              refine ce_lstore dL_kept_736 (Nat.le_of_ble_eq_true rfl) rfl ?_
              refine ce_lload dL_kept_738 rfl ?_
              refine ce_aload_n dL_kept_740 rfl ?_
              refine ce_iload dL_kept_741 rfl ?_
              refine ce_iconst (v := nI (0)) dL_kept_743 (by decide) ?_
              refine kc_Wj dL_kept_744 hL_bin kRL_129 (q_bin0 hw iv (i := iz) (by omega)) rfl rfl (by decide) (Nat.le_of_ble_eq_true rfl) rfl (by show _ ≤ 100; omega) ?_
              refine ce_lload dL_kept_747 rfl ?_
              refine ce_lsub (z := lN (sK S 11 (iz) - (sK S 12 (iz)))) dL_kept_749 (lN_sub (by omega)) ?_
              refine ce_ladd (z := lN (vz + (sK S 11 (iz) - (sK S 12 (iz))))) dL_kept_750 (lN_add _ _) ?_
              refine ce_lstore dL_kept_751 (Nat.le_of_ble_eq_true rfl) rfl ?_
              refine ce_lload dL_kept_753 rfl ?_
              refine ce_lconst (v := lN 0) dL_kept_755 (by decide) ?_
              refine ce_aload_n dL_kept_756 rfl ?_
              refine ce_iload dL_kept_757 rfl ?_
              refine ce_iconst (v := nI (0)) dL_kept_759 (by decide) ?_
              refine kc_Wj dL_kept_760 hL_bin kRL_129 (q_bin0 hw iv (i := iz) (by omega)) rfl rfl (by decide) (Nat.le_of_ble_eq_true rfl) rfl (by show _ ≤ 100; omega) ?_
              refine kc_Sp dL_kept_763 hL_in kRL_185 (m_L_in (sK S 12 (iz)) (0) (sK S 11 (iz)) (by omega) (by omega) (by omega)) rfl rfl (by decide) (Nat.le_of_ble_eq_true rfl) rfl (by show _ ≤ 100; omega) ?_
              refine ce_if_eqN (tgt := 807) dL_kept_766 (by decide) rfl (by omega) (fun c_766 => ?_) (fun c_766 => ?_)
              · omega
              · refine ce_lload dL_kept_769 rfl ?_
                refine ce_lconst (v := lN 0) dL_kept_771 (by decide) ?_
                refine ce_lcmp (z := lg_cmp (lN (sK S 12 (iz))) (lN (0))) dL_kept_772 rfl ?_
                refine ce_if_neL (a := sK S 12 (iz)) (b := 0) (tgt := 780) dL_kept_773 (by decide) rfl (by omega) (by omega) (fun c_773 => ?_) (fun c_773 => ?_)
                · refine ce_iconst (v := nI (0)) dL_kept_780 (by decide) ?_
                  refine ce_aload_n dL_kept_781 rfl ?_
                  refine ce_iload dL_kept_782 rfl ?_
                  refine ce_iconst (v := nI (1)) dL_kept_784 (by decide) ?_
                  refine kc_Wj dL_kept_785 hL_bin kRL_129 (q_bin1B hw iv (i := iz) (by omega) hA) rfl rfl (by decide) (Nat.le_of_ble_eq_true rfl) rfl (by show _ ≤ 100; omega) ?_
                  refine ce_ldc2 dL_kept_788 kRL_160 ?_
                  refine ce_lcmp (z := lg_cmp (lN (sK S 13 (iz) - 1)) ((-99999 : Int64))) dL_kept_791 rfl ?_
                  refine ce_if_neC (tgt := 799) dL_kept_792 (by decide) rfl (fun c_792 => ?_) (fun c_792 => ?_)
                  · refine ce_iconst (v := nI (0)) dL_kept_799 (by decide) ?_
                    refine ce_icmp_neN (tgt := 807) dL_kept_800 (by decide) rfl rfl (by omega) (by omega) (fun c_800 => ?_) (fun c_800 => ?_)
                    · omega
                    · refine ce_iconst (v := nI (1)) dL_kept_803 (by decide) ?_
                      refine ce_goto (tgt := 808) dL_kept_804 (by decide) ?_
                      refine ce_istore dL_kept_808 (Nat.le_of_ble_eq_true rfl) rfl ?_
                      refine ce_iinc (v := nI (iz + 1)) dL_kept_810 rfl (ce_inc1 _) (Nat.le_of_ble_eq_true rfl) rfl ?_
                      refine ce_goto (tgt := 684) dL_kept_813 (by decide) ?_
                      refine ce_drop (L' := [some (.ref (a)), some (.int (nI (sK S 0 0))), some (.int (nI (sK S 0 1))), some (.int (nI (sK S 0 2))), some (.int (nI (1))), some (.long (lN (cz))), none, some (.long (lN (dz))), none, some (.long (lN (fz))), none, some (.long (lN (rz))), none, some (.long (lN (xz + (0)))), none, some (.long (lN (vz + (sK S 11 (iz) - (sK S 12 (iz)))))), none, some (.long (lN (uz + (1)))), none, some (.int (nI (iz + 1))), none, none, none, none, none, none]) (ce_le_s rfl (ce_le_s rfl (ce_le_s rfl (ce_le_s rfl (ce_le_s rfl (ce_le_s rfl (ce_le_n (ce_le_s rfl (ce_le_n (ce_le_s rfl (ce_le_n (ce_le_s rfl (ce_le_n (ce_le_s rfl (ce_le_n (ce_le_s rfl (ce_le_n (ce_le_s rfl (ce_le_n (ce_le_s rfl (ce_le_n (ce_le_n (ce_le_n (ce_le_n (ce_le_n (ce_le_n ce_le_e)))))))))))))))))))))))))) ?_
                      exact ih (iz + 1) _ _ _ (by omega) (by omega) (by show _ = kv_emp (sK S) iz + (if sK S 12 iz = 0 then 1 else 0); omega) (by show _ = ce_sum (fun b => sK S 11 b - sK S 12 b) iz + (sK S 11 iz - sK S 12 iz); omega) (by show _ = ce_sum (fun b => if 0 < sK S 12 b then 1 else 0) iz + (if 0 < sK S 12 iz then 1 else 0); omega)
                  · exact absurd c_792.symm (n9_ne (by omega))
                · omega
          · omega
set_option maxHeartbeats 2000000 in
set_option maxRecDepth 20000 in
theorem kp_m {a : Nat} {S : ks_S} (iv : kl_iv S) {Q : Option Value → ce_S → ce_D → Prop} {X : String → ce_S → ce_D → Prop} {σ0 σ : ce_S} {g0 g : ce_D} {cz dz fz rz kz xz vz uz : Nat} (hw : kw a S σ0 g0 σ g) (hkz : kz ≤ 100) (kk : ∀ (yz qz : Nat), yz = ce_sum (fun mz => ce_sum (fun w => sK S 9 (mz * 6 + w)) 6) (sK S 0 0) → qz = ce_sum (fun mz => ce_sum (fun w => sK S 10 (mz * 6 + w)) 6) (sK S 0 0) → ce_WP (ce_rl 1 100) mL_kept (kz) (6 * (kz)) 876 [some (.ref (a)), some (.int (nI (sK S 0 0))), some (.int (nI (sK S 0 1))), some (.int (nI (sK S 0 2))), some (.int (nI (1))), some (.long (lN (cz))), none, some (.long (lN (dz))), none, some (.long (lN (fz))), none, some (.long (lN (rz))), none, some (.long (lN (xz))), none, some (.long (lN (vz))), none, some (.long (lN (uz))), none, some (.long ((ce_isum (sO S) (sK S 0 0)).toInt64)), none, some (.long (lN (yz))), none, some (.long (lN (qz))), none, none] [] σ g Q X) : ∀ (n9 iz yz qz : Nat), sK S 0 0 - iz < n9 → iz ≤ sK S 0 0 → yz = ce_sum (fun mz => ce_sum (fun w => sK S 9 (mz * 6 + w)) 6) iz → qz = ce_sum (fun mz => ce_sum (fun w => sK S 10 (mz * 6 + w)) 6) iz → ce_WP (ce_rl 1 100) mL_kept (kz) (6 * (kz)) 828 [some (.ref (a)), some (.int (nI (sK S 0 0))), some (.int (nI (sK S 0 1))), some (.int (nI (sK S 0 2))), some (.int (nI (1))), some (.long (lN (cz))), none, some (.long (lN (dz))), none, some (.long (lN (fz))), none, some (.long (lN (rz))), none, some (.long (lN (xz))), none, some (.long (lN (vz))), none, some (.long (lN (uz))), none, some (.long ((ce_isum (sO S) (iz)).toInt64)), none, some (.long (lN (yz))), none, some (.long (lN (qz))), none, some (.int (nI (iz)))] [] σ g Q X := by
  have b9 := iv.ok.1.b
  intro n9
  induction n9 with
  | zero =>
    intros
    omega
  | succ n9 ih =>
    intro iz yz qz hm hi ey eq
    refine ce_iload dL_kept_828 rfl ?_
    refine ce_iload_n dL_kept_830 rfl ?_
    refine ce_icmp_geN (tgt := 876) dL_kept_831 (by decide) rfl rfl (by omega) (by omega) (fun c_831 => ?_) (fun c_831 => ?_)
    · have e9 : iz = sK S 0 0 := by omega
      subst e9
      refine ce_drop (L' := [some (.ref (a)), some (.int (nI (sK S 0 0))), some (.int (nI (sK S 0 1))), some (.int (nI (sK S 0 2))), some (.int (nI (1))), some (.long (lN (cz))), none, some (.long (lN (dz))), none, some (.long (lN (fz))), none, some (.long (lN (rz))), none, some (.long (lN (xz))), none, some (.long (lN (vz))), none, some (.long (lN (uz))), none, some (.long ((ce_isum (sO S) (sK S 0 0)).toInt64)), none, some (.long (lN (yz))), none, some (.long (lN (qz))), none, none]) (ce_le_s rfl (ce_le_s rfl (ce_le_s rfl (ce_le_s rfl (ce_le_s rfl (ce_le_s rfl (ce_le_n (ce_le_s rfl (ce_le_n (ce_le_s rfl (ce_le_n (ce_le_s rfl (ce_le_n (ce_le_s rfl (ce_le_n (ce_le_s rfl (ce_le_n (ce_le_s rfl (ce_le_n (ce_le_s rfl (ce_le_n (ce_le_s rfl (ce_le_n (ce_le_s rfl (ce_le_n (ce_le_n ce_le_e)))))))))))))))))))))))))) ?_
      exact kk _ _ ey eq
    · refine ce_lload dL_kept_834 rfl ?_
      refine ce_aload_n dL_kept_836 rfl ?_
      refine ce_iload dL_kept_837 rfl ?_
      refine ce_iconst (v := nI (1)) dL_kept_839 (by decide) ?_
      refine kc_Wj dL_kept_840 hL_member kRL_117 (q_member1 hw iv (m := iz) (by omega)) rfl rfl (by decide) (Nat.le_of_ble_eq_true rfl) rfl (by show _ ≤ 100; omega) ?_
      refine ce_ladd (z := (ce_isum (sO S) (iz + 1)).toInt64) dL_kept_843 (ki_step iv.kj.1 iv.ok.1 (by omega)) ?_
      refine ce_lstore dL_kept_844 (Nat.le_of_ble_eq_true rfl) rfl ?_
      refine ce_lload dL_kept_846 rfl ?_
      refine ce_aload_n dL_kept_848 rfl ?_
      refine ce_iload dL_kept_849 rfl ?_
      refine ce_iconst (v := nI (2)) dL_kept_851 (by decide) ?_
      refine kc_Wj dL_kept_852 hL_member kRL_117 (q_member2 hw iv (m := iz) (by omega)) rfl rfl (by decide) (Nat.le_of_ble_eq_true rfl) rfl (by show _ ≤ 100; omega) ?_
      refine ce_ladd (z := lN (yz + (ce_sum (fun w => sK S 9 (iz * 6 + w)) 6))) dL_kept_855 (lN_add _ _) ?_
      refine ce_lstore dL_kept_856 (Nat.le_of_ble_eq_true rfl) rfl ?_
      refine ce_lload dL_kept_858 rfl ?_
      refine ce_aload_n dL_kept_860 rfl ?_
      refine ce_iload dL_kept_861 rfl ?_
      refine ce_iconst (v := nI (3)) dL_kept_863 (by decide) ?_
      refine kc_Wj dL_kept_864 hL_member kRL_117 (q_member3 hw iv (m := iz) (by omega)) rfl rfl (by decide) (Nat.le_of_ble_eq_true rfl) rfl (by show _ ≤ 100; omega) ?_
      refine ce_ladd (z := lN (qz + (ce_sum (fun w => sK S 10 (iz * 6 + w)) 6))) dL_kept_867 (lN_add _ _) ?_
      refine ce_lstore dL_kept_868 (Nat.le_of_ble_eq_true rfl) rfl ?_
      refine ce_iinc (v := nI (iz + 1)) dL_kept_870 rfl (ce_inc1 _) (Nat.le_of_ble_eq_true rfl) rfl ?_
      refine ce_goto (tgt := 828) dL_kept_873 (by decide) ?_
      exact ih (iz + 1) _ _ (by omega) (by omega) (by show _ = ce_sum (fun mz => ce_sum (fun w => sK S 9 (mz * 6 + w)) 6) iz + ce_sum (fun w => sK S 9 (iz * 6 + w)) 6; omega) (by show _ = ce_sum (fun mz => ce_sum (fun w => sK S 10 (mz * 6 + w)) 6) iz + ce_sum (fun w => sK S 10 (iz * 6 + w)) 6; omega)
set_option maxHeartbeats 2000000 in
set_option maxRecDepth 20000 in
theorem kp_f {a : Nat} {S : ks_S} (iv : kl_iv S) {X : String → ce_S → ce_D → Prop} {σ0 σ : ce_S} {g0 g : ce_D} {cz dz fz rz kz xz vz uz yz qz : Nat} (hw : kw a S σ0 g0 σ g) (hkz : kz ≤ 60) (ec : cz = ce_sum (kv_sum (sK S) 9) (sK S 0 1)) (ed : dz = ce_sum (kv_sum (sK S) 10) (sK S 0 1)) (ef : fz = ce_sum (sK S 6) (sK S 0 1)) (er : rz = ce_sum (sK S 4) (sK S 0 1)) (ex : xz = kv_emp (sK S) (sK S 0 2)) (ev : vz = ce_sum (fun b => sK S 11 b - sK S 12 b) (sK S 0 2)) (eu : uz = ce_sum (fun b => if 0 < sK S 12 b then 1 else 0) (sK S 0 2)) (ey : yz = ce_sum (fun mz => ce_sum (fun w => sK S 9 (mz * 6 + w)) 6) (sK S 0 0)) (eq : qz = ce_sum (fun mz => ce_sum (fun w => sK S 10 (mz * 6 + w)) 6) (sK S 0 0)) : ce_WP (ce_rl 1 100) mL_kept (kz) (6 * (kz)) 876 [some (.ref (a)), some (.int (nI (sK S 0 0))), some (.int (nI (sK S 0 1))), some (.int (nI (sK S 0 2))), some (.int (nI (1))), some (.long (lN (cz))), none, some (.long (lN (dz))), none, some (.long (lN (fz))), none, some (.long (lN (rz))), none, some (.long (lN (xz))), none, some (.long (lN (vz))), none, some (.long (lN (uz))), none, some (.long ((ce_isum (sO S) (sK S 0 0)).toInt64)), none, some (.long (lN (yz))), none, some (.long (lN (qz))), none, none] [] σ g (kb σ0 g0 a S) X := by
  have b9 := iv.ok.1.b
  have h9 := kv_s9 iv.ok.1
  have h10 := kv_s10 iv.ok.1
  have h6 := kv_s6 iv.ok.1
  have h4 := kv_s4 iv.ok.1
  have m9 := kv_m9 iv.ok.1
  have m10 := kv_m10 iv.ok.1
  have c9 := iv.ok.1.b9
  have c10 := iv.ok.1.b10
  have c6 := kj_s6 iv.ok.1
  have c4 := iv.ok.1.b4
  have cem := iv.ok.1.bem
  have crm := iv.ok.1.brm
  have hfl := kp_few_le iv.ok.1
  unfold kp_used at hfl
  have hf0 := kp_few_0 iv.ok.1
  have hu8 : ce_sum (fun b => if 0 < sK S 12 b then 1 else 0) (sK S 0 2) ≤ 8 := by have := ce_sum_01 (f := (fun b => if 0 < sK S 12 b then 1 else 0)) (fun j => by show (if 0 < sK S 12 j then 1 else 0) ≤ 1; split <;> omega) (sK S 0 2); omega
  have how : (ce_isum (sO S) 6).toInt64 = (ce_isum (sO S) (sK S 0 0)).toInt64 := by rw [kq_isum iv.ok.1.me iv.oz.1]
  refine ce_iload dL_kept_876 rfl ?_
  refine ce_if_eqN (tgt := 1020) dL_kept_878 (by decide) rfl (by omega) (fun c_878 => ?_) (fun c_878 => ?_)
  · omega
  · refine ce_aload_n dL_kept_881 rfl ?_
    refine ce_iconst (v := nI (3)) dL_kept_882 (by decide) ?_
    refine kc_Wj dL_kept_883 hL_about kRL_112 (q_about3 hw iv) rfl rfl (by decide) (Nat.le_of_ble_eq_true rfl) rfl (by show _ ≤ 100; omega) ?_
    refine ce_lload dL_kept_886 rfl ?_
    refine ce_lcmp (z := lg_cmp (lN (ce_sum (sK S 9) 36)) (lN (cz))) dL_kept_888 rfl ?_
    refine ce_if_neL (a := ce_sum (sK S 9) 36) (b := cz) (tgt := 1020) dL_kept_889 (by decide) rfl (by omega) (by omega) (fun c_889 => ?_) (fun c_889 => ?_)
    · omega
    · refine ce_lload dL_kept_892 rfl ?_
      refine ce_lload dL_kept_894 rfl ?_
      refine ce_lcmp (z := lg_cmp (lN (yz)) (lN (cz))) dL_kept_896 rfl ?_
      refine ce_if_neL (a := yz) (b := cz) (tgt := 1020) dL_kept_897 (by decide) rfl (by omega) (by omega) (fun c_897 => ?_) (fun c_897 => ?_)
      · omega
      · refine ce_aload_n dL_kept_900 rfl ?_
        refine ce_iconst (v := nI (4)) dL_kept_901 (by decide) ?_
        refine kc_Wj dL_kept_902 hL_about kRL_112 (q_about4 hw iv) rfl rfl (by decide) (Nat.le_of_ble_eq_true rfl) rfl (by show _ ≤ 100; omega) ?_
        refine ce_lload dL_kept_905 rfl ?_
        refine ce_lcmp (z := lg_cmp (lN (ce_sum (sK S 10) 36)) (lN (dz))) dL_kept_907 rfl ?_
        refine ce_if_neL (a := ce_sum (sK S 10) 36) (b := dz) (tgt := 1020) dL_kept_908 (by decide) rfl (by omega) (by omega) (fun c_908 => ?_) (fun c_908 => ?_)
        · omega
        · refine ce_lload dL_kept_911 rfl ?_
          refine ce_lload dL_kept_913 rfl ?_
          refine ce_lcmp (z := lg_cmp (lN (qz)) (lN (dz))) dL_kept_915 rfl ?_
          refine ce_if_neL (a := qz) (b := dz) (tgt := 1020) dL_kept_916 (by decide) rfl (by omega) (by omega) (fun c_916 => ?_) (fun c_916 => ?_)
          · omega
          · refine ce_aload_n dL_kept_919 rfl ?_
            refine ce_iconst (v := nI (5)) dL_kept_920 (by decide) ?_
            refine kc_Wj dL_kept_921 hL_about kRL_112 (q_about5 hw iv) rfl rfl (by decide) (Nat.le_of_ble_eq_true rfl) rfl (by show _ ≤ 100; omega) ?_
            refine ce_lload dL_kept_924 rfl ?_
            refine ce_lcmp (z := lg_cmp (lN (ce_sum (sK S 6) 6)) (lN (fz))) dL_kept_926 rfl ?_
            refine ce_if_neL (a := ce_sum (sK S 6) 6) (b := fz) (tgt := 1020) dL_kept_927 (by decide) rfl (by omega) (by omega) (fun c_927 => ?_) (fun c_927 => ?_)
            · omega
            · refine ce_aload_n dL_kept_930 rfl ?_
              refine ce_bipush (v := nI (6)) dL_kept_931 (by decide) ?_
              refine kc_Wj dL_kept_933 hL_about kRL_112 (q_about6 hw iv) rfl rfl (by decide) (Nat.le_of_ble_eq_true rfl) rfl (by show _ ≤ 100; omega) ?_
              refine ce_lload dL_kept_936 rfl ?_
              refine ce_lcmp (z := lg_cmp (lN (ce_sum (sK S 4) 6)) (lN (rz))) dL_kept_938 rfl ?_
              refine ce_if_neL (a := ce_sum (sK S 4) 6) (b := rz) (tgt := 1020) dL_kept_939 (by decide) rfl (by omega) (by omega) (fun c_939 => ?_) (fun c_939 => ?_)
              · omega
              · refine ce_aload_n dL_kept_942 rfl ?_
                refine ce_bipush (v := nI (7)) dL_kept_943 (by decide) ?_
                refine kc_Wj dL_kept_945 hL_about kRL_112 (q_about7 hw iv) rfl rfl (by decide) (Nat.le_of_ble_eq_true rfl) rfl (by show _ ≤ 100; omega) ?_
                refine ce_lload dL_kept_948 rfl ?_
                refine ce_lcmp (z := lg_cmp ((ce_isum (sO S) 6).toInt64) ((ce_isum (sO S) (sK S 0 0)).toInt64)) dL_kept_950 rfl ?_
                refine ce_if_neC (tgt := 1020) dL_kept_951 (by decide) rfl (fun c_951 => ?_) (fun c_951 => ?_)
                · exact absurd how c_951
                · refine ce_aload_n dL_kept_954 rfl ?_
                  refine ce_bipush (v := nI (8)) dL_kept_955 (by decide) ?_
                  refine kc_Wj dL_kept_957 hL_about kRL_112 (q_about8 hw iv) rfl rfl (by decide) (Nat.le_of_ble_eq_true rfl) rfl (by show _ ≤ 100; omega) ?_
                  refine ce_lload dL_kept_960 rfl ?_
                  refine ce_lcmp (z := lg_cmp (lN (kv_emp (sK S) (sK S 0 2))) (lN (xz))) dL_kept_962 rfl ?_
                  refine ce_if_neL (a := kv_emp (sK S) (sK S 0 2)) (b := xz) (tgt := 1020) dL_kept_963 (by decide) rfl (by omega) (by omega) (fun c_963 => ?_) (fun c_963 => ?_)
                  · omega
                  · refine ce_aload_n dL_kept_966 rfl ?_
                    refine ce_bipush (v := nI (9)) dL_kept_967 (by decide) ?_
                    refine kc_Wj dL_kept_969 hL_about kRL_112 (q_about9 hw iv) rfl rfl (by decide) (Nat.le_of_ble_eq_true rfl) rfl (by show _ ≤ 100; omega) ?_
                    refine ce_lload dL_kept_972 rfl ?_
                    refine ce_lcmp (z := lg_cmp (lN (ce_sum (fun b => sK S 11 b - sK S 12 b) (sK S 0 2))) (lN (vz))) dL_kept_974 rfl ?_
                    refine ce_if_neL (a := ce_sum (fun b => sK S 11 b - sK S 12 b) (sK S 0 2)) (b := vz) (tgt := 1020) dL_kept_975 (by decide) rfl (by omega) (by omega) (fun c_975 => ?_) (fun c_975 => ?_)
                    · omega
                    · refine ce_aload_n dL_kept_978 rfl ?_
                      refine kc_V dL_kept_979 hX7_fewestBins kRL_193 hw (fun b hX hr => kl_of_r hX (m_X7_fewestBins_ok a b S hX hr iv.ok)) rfl rfl rfl rfl (by decide) (Nat.le_of_ble_eq_true rfl) rfl (by show _ ≤ 100; omega) (fun cs1 cg1 hcg1 => ?_)
                      refine ce_i2l (v := lN (kp_few (sK S))) dL_kept_982 (nI_l (by omega)) ?_
                      refine ce_lload dL_kept_983 rfl ?_
                      refine ce_lcmp (z := lg_cmp (lN (kp_few (sK S))) (lN (uz))) dL_kept_985 rfl ?_
                      refine ce_if_gtL (a := kp_few (sK S)) (b := uz) (tgt := 1020) dL_kept_986 (by decide) rfl (by omega) (by omega) (fun c_986 => ?_) (fun c_986 => ?_)
                      · omega
                      · refine ce_lload dL_kept_989 rfl ?_
                        refine ce_lconst (v := lN 0) dL_kept_991 (by decide) ?_
                        refine ce_lcmp (z := lg_cmp (lN (cz)) (lN (0))) dL_kept_992 rfl ?_
                        refine ce_if_neL (a := cz) (b := 0) (tgt := 1000) dL_kept_993 (by decide) rfl (by omega) (by omega) (fun c_993 => ?_) (fun c_993 => ?_)
                        · refine ce_iconst (v := nI (0)) dL_kept_1000 (by decide) ?_
                          refine ce_aload_n dL_kept_1001 rfl ?_
                          refine kc_V dL_kept_1002 hX7_fewestBins kRL_193 hcg1 (fun b hX hr => kl_of_r hX (m_X7_fewestBins_ok a b S hX hr iv.ok)) rfl rfl rfl rfl (by decide) (Nat.le_of_ble_eq_true rfl) rfl (by show _ ≤ 100; omega) (fun cs2 cg2 hcg2 => ?_)
                          refine ce_if_neN (tgt := 1012) dL_kept_1005 (by decide) rfl (by omega) (fun c_1005 => ?_) (fun c_1005 => ?_)
                          · refine ce_iconst (v := nI (0)) dL_kept_1012 (by decide) ?_
                            refine ce_icmp_neN (tgt := 1020) dL_kept_1013 (by decide) rfl rfl (by omega) (by omega) (fun c_1013 => ?_) (fun c_1013 => ?_)
                            · omega
                            · refine ce_iconst (v := nI (1)) dL_kept_1016 (by decide) ?_
                              refine ce_goto (tgt := 1021) dL_kept_1017 (by decide) ?_
                              exact ce_iret dL_kept_1021 rfl rfl (by show _ ≤ 100; omega) (by show _ ≤ 6 * 100; omega) ⟨rfl, hcg2⟩
                          · omega
                        · refine ce_iconst (v := nI (1)) dL_kept_996 (by decide) ?_
                          refine ce_goto (tgt := 1001) dL_kept_997 (by decide) ?_
                          refine ce_aload_n dL_kept_1001 rfl ?_
                          refine kc_V dL_kept_1002 hX7_fewestBins kRL_193 hcg1 (fun b hX hr => kl_of_r hX (m_X7_fewestBins_ok a b S hX hr iv.ok)) rfl rfl rfl rfl (by decide) (Nat.le_of_ble_eq_true rfl) rfl (by show _ ≤ 100; omega) (fun cs2 cg2 hcg2 => ?_)
                          refine ce_if_neN (tgt := 1012) dL_kept_1005 (by decide) rfl (by omega) (fun c_1005 => ?_) (fun c_1005 => ?_)
                          · omega
                          · refine ce_iconst (v := nI (1)) dL_kept_1008 (by decide) ?_
                            refine ce_goto (tgt := 1013) dL_kept_1009 (by decide) ?_
                            refine ce_icmp_neN (tgt := 1020) dL_kept_1013 (by decide) rfl rfl (by omega) (by omega) (fun c_1013 => ?_) (fun c_1013 => ?_)
                            · omega
                            · refine ce_iconst (v := nI (1)) dL_kept_1016 (by decide) ?_
                              refine ce_goto (tgt := 1021) dL_kept_1017 (by decide) ?_
                              exact ce_iret dL_kept_1021 rfl rfl (by show _ ≤ 100; omega) (by show _ ≤ 6 * 100; omega) ⟨rfl, hcg2⟩
set_option maxHeartbeats 2000000 in
set_option maxRecDepth 20000 in
theorem m_L_kept {a : Nat} {S : ks_S} {σ0 σ : ce_S} {g0 g : ce_D} (hw : kw a S σ0 g0 σ g) (iv : kl_iv S) (ht : a + 411 ≤ σ0.1) : ce_CT (ce_rl 1 100) mL_kept [.ref a] σ g (kb σ0 g0 a S) ce_no := by
  have b9 := iv.ok.1.b
  refine ce_enter (by decide) rfl (Nat.le_of_ble_eq_true rfl) (L := [some (.ref (a)), none, none, none, none, none, none, none, none, none, none, none, none, none, none, none, none, none, none, none, none, none, none, none, none, none]) rfl ?_
  show ce_WP (ce_rl 1 100) mL_kept 0 (6 * 0) 0 _ _ _ _ _ _
  refine ce_aload_n dL_kept_0 rfl ?_
  refine ce_iconst (v := nI (0)) dL_kept_1 (by decide) ?_
  refine kc_Wj dL_kept_2 hL_about kRL_112 (q_about0 hw iv) rfl rfl (by decide) (Nat.le_of_ble_eq_true rfl) rfl (by show _ ≤ 100; omega) ?_
  refine ce_l2i (v := nI (sK S 0 0)) dL_kept_5 (lN_i _) ?_
  refine ce_istore_n dL_kept_6 (Nat.le_of_ble_eq_true rfl) rfl ?_
  refine ce_aload_n dL_kept_7 rfl ?_
  refine ce_iconst (v := nI (1)) dL_kept_8 (by decide) ?_
  refine kc_Wj dL_kept_9 hL_about kRL_112 (q_about1 hw iv) rfl rfl (by decide) (Nat.le_of_ble_eq_true rfl) rfl (by show _ ≤ 100; omega) ?_
  refine ce_l2i (v := nI (sK S 0 1)) dL_kept_12 (lN_i _) ?_
  refine ce_istore_n dL_kept_13 (Nat.le_of_ble_eq_true rfl) rfl ?_
  refine ce_aload_n dL_kept_14 rfl ?_
  refine ce_iconst (v := nI (2)) dL_kept_15 (by decide) ?_
  refine kc_Wj dL_kept_16 hL_about kRL_112 (q_about2 hw iv) rfl rfl (by decide) (Nat.le_of_ble_eq_true rfl) rfl (by show _ ≤ 100; omega) ?_
  refine ce_l2i (v := nI (sK S 0 2)) dL_kept_19 (lN_i _) ?_
  refine ce_istore_n dL_kept_20 (Nat.le_of_ble_eq_true rfl) rfl ?_
  refine ce_iload_n dL_kept_21 rfl ?_
  refine ce_i2l (v := lN (sK S 0 0)) dL_kept_22 (nI_l (by omega)) ?_
  refine ce_lconst (v := lN 0) dL_kept_23 (by decide) ?_
  refine ce_ldc2 (v := lN 6) dL_kept_24 kRL_183 ?_
  refine kc_Sp dL_kept_27 hL_in kRL_185 (m_L_in (sK S 0 0) (0) (6) (by omega) (by omega) (by omega)) rfl rfl (by decide) (Nat.le_of_ble_eq_true rfl) rfl (by show _ ≤ 100; omega) ?_
  refine ce_if_eqN (tgt := 61) dL_kept_30 (by decide) rfl (by omega) (fun c_30 => ?_) (fun c_30 => ?_)
  · omega
  · refine ce_iload_n dL_kept_33 rfl ?_
    refine ce_i2l (v := lN (sK S 0 1)) dL_kept_34 (nI_l (by omega)) ?_
    refine ce_lconst (v := lN 0) dL_kept_35 (by decide) ?_
    refine ce_ldc2 (v := lN 6) dL_kept_36 kRL_183 ?_
    refine kc_Sp dL_kept_39 hL_in kRL_185 (m_L_in (sK S 0 1) (0) (6) (by omega) (by omega) (by omega)) rfl rfl (by decide) (Nat.le_of_ble_eq_true rfl) rfl (by show _ ≤ 100; omega) ?_
    refine ce_if_eqN (tgt := 61) dL_kept_42 (by decide) rfl (by omega) (fun c_42 => ?_) (fun c_42 => ?_)
    · omega
    · refine ce_iload_n dL_kept_45 rfl ?_
      refine ce_i2l (v := lN (sK S 0 2)) dL_kept_46 (nI_l (by omega)) ?_
      refine ce_lconst (v := lN 0) dL_kept_47 (by decide) ?_
      refine ce_ldc2 (v := lN 8) dL_kept_48 kRL_189 ?_
      refine kc_Sp dL_kept_51 hL_in kRL_185 (m_L_in (sK S 0 2) (0) (8) (by omega) (by omega) (by omega)) rfl rfl (by decide) (Nat.le_of_ble_eq_true rfl) rfl (by show _ ≤ 100; omega) ?_
      refine ce_if_eqN (tgt := 61) dL_kept_54 (by decide) rfl (by omega) (fun c_54 => ?_) (fun c_54 => ?_)
      · omega
      · refine ce_iconst (v := nI (1)) dL_kept_57 (by decide) ?_
        refine ce_goto (tgt := 62) dL_kept_58 (by decide) ?_
        refine ce_istore dL_kept_62 (Nat.le_of_ble_eq_true rfl) rfl ?_
        refine ce_lconst (v := lN 0) dL_kept_64 (by decide) ?_
        refine ce_lstore dL_kept_65 (Nat.le_of_ble_eq_true rfl) rfl ?_
        refine ce_lconst (v := lN 0) dL_kept_67 (by decide) ?_
        refine ce_lstore dL_kept_68 (Nat.le_of_ble_eq_true rfl) rfl ?_
        refine ce_lconst (v := lN 0) dL_kept_70 (by decide) ?_
        refine ce_lstore dL_kept_71 (Nat.le_of_ble_eq_true rfl) rfl ?_
        refine ce_lconst (v := lN 0) dL_kept_73 (by decide) ?_
        refine ce_lstore dL_kept_74 (Nat.le_of_ble_eq_true rfl) rfl ?_
        refine ce_iconst (v := nI (0)) dL_kept_76 (by decide) ?_
        refine ce_istore dL_kept_77 (Nat.le_of_ble_eq_true rfl) rfl ?_
        refine kp_k iv ht (fun kz σ g cz dz fz rz hw ec ed ef er hk => ?_) (sK S 0 1 + 1) 0 _ _ _ 0 0 0 0 hw (by omega) (by omega) rfl rfl rfl rfl (by omega)
        refine ce_lconst (v := lN 0) dL_kept_672 (by decide) ?_
        refine ce_lstore dL_kept_673 (Nat.le_of_ble_eq_true rfl) rfl ?_
        refine ce_lconst (v := lN 0) dL_kept_675 (by decide) ?_
        refine ce_lstore dL_kept_676 (Nat.le_of_ble_eq_true rfl) rfl ?_
        refine ce_lconst (v := lN 0) dL_kept_678 (by decide) ?_
        refine ce_lstore dL_kept_679 (Nat.le_of_ble_eq_true rfl) rfl ?_
        refine ce_iconst (v := nI (0)) dL_kept_681 (by decide) ?_
        refine ce_istore dL_kept_682 (Nat.le_of_ble_eq_true rfl) rfl ?_
        refine kp_e iv hw (by omega) (fun xz vz uz ex ev eu => ?_) (sK S 0 2 + 1) 0 0 0 0 (by omega) (by omega) rfl rfl rfl
        refine ce_lconst (v := lN 0) dL_kept_816 (by decide) ?_
        refine ce_lstore dL_kept_817 (Nat.le_of_ble_eq_true rfl) rfl ?_
        refine ce_lconst (v := lN 0) dL_kept_819 (by decide) ?_
        refine ce_lstore dL_kept_820 (Nat.le_of_ble_eq_true rfl) rfl ?_
        refine ce_lconst (v := lN 0) dL_kept_822 (by decide) ?_
        refine ce_lstore dL_kept_823 (Nat.le_of_ble_eq_true rfl) rfl ?_
        refine ce_iconst (v := nI (0)) dL_kept_825 (by decide) ?_
        refine ce_istore dL_kept_826 (Nat.le_of_ble_eq_true rfl) rfl ?_
        refine kp_m iv hw (by omega) (fun yz qz ey eq => ?_) (sK S 0 0 + 1) 0 0 0 (by omega) (by omega) rfl rfl
        exact kp_f iv hw hk ec ed ef er ex ev eu ey eq
