section CER
/-! a command of five digits: what speaks against it (0: nothing), what it makes of the club -/
def kt_f (K : ce_V) (G : Nat) : Nat := match G / 10000 with
  | 1 => kv_ordF K (nI (G / 1000 % 10)) (nI (G / 100 % 10)) (nI (G % 100))
  | 2 => if G / 100 % 10 = 0 ∧ G % 100 = 0 then kv_allF K (nI (G / 1000 % 10)) else 9
  | 3 => if G / 100 % 10 = 0 ∧ G % 100 = 0 then kv_delF K (nI (G / 1000 % 10)) else 9
  | 4 => kv_driF K (nI (G / 1000 % 10)) (nI (G / 100 % 10)) (nI (G % 100))
  | 5 => kv_gifF K (nI (G / 1000 % 10)) (nI (G / 100 % 10)) (nI (G % 100 / 10)) (nI (G % 100 % 10))
  | 6 => if G % 100 = 0 then kv_corF K (nI (G / 1000 % 10)) (nI (G / 100 % 10)) else 9
  | 7 => kv_carF K (nI (G / 1000 % 10)) (nI (G / 100 % 10)) (nI (G % 100))
  | 8 => if G / 1000 % 10 < K 0 0 ∧ G / 100 % 10 < K 0 1 ∧ G % 100 ≤ K 9 (G / 1000 % 10 * 6 + G / 100 % 10) then 0 else 9
  | 9 => if G / 1000 % 10 = 0 ∧ G / 100 % 10 = 0 ∧ G % 100 < 10 ∧ G % 100 ≤ kv_emp K (K 0 2) then 0 else 9
  | _ => 9
def kt_K (K : ce_V) (G : Nat) : ce_V := match G / 10000 with
  | 1 => kv_ord K (G / 1000 % 10) (G / 100 % 10) (G % 100)
  | 2 => kv_all K (G / 1000 % 10)
  | 3 => kv_bri K (G / 1000 % 10)
  | 4 => kv_dri K (G / 1000 % 10) (G / 100 % 10) (G % 100)
  | 5 => kv_han K (G / 1000 % 10) (G / 100 % 10) (G % 100 / 10) (G % 100 % 10)
  | 6 => kv_cor K (G / 1000 % 10) (G / 100 % 10)
  | 7 => kv_car K (G / 1000 % 10) (G / 100 % 10) (G % 100)
  | _ => K
def kt_O (K : ce_V) (O : Nat → Int32) (G : Nat) : Nat → Int32 := match G / 10000 with
  | 2 => ko_all K (G / 1000 % 10) O
  | 3 => ko_bri K (G / 1000 % 10) O
  | 6 => ko_cor K (G / 1000 % 10) (G / 100 % 10) O
  | _ => O
/-- an evening -/
def ke_m (K : ce_V) (R : Nat) : Nat := R / 8 % K 0 0
def ke_w (K : ce_V) (R : Nat) : Nat := R / 64 % K 0 1
def ke_o (K : ce_V) (R : Nat) : Nat := R / 1024 % K 0 0
def ke_f (K : ce_V) (R : Nat) : Nat := if K 0 0 = 0 ∨ K 0 1 = 0 then 9 else if R % 8 < 5 then kv_driF K (nI (ke_m K R)) (nI (ke_w K R)) (nI (1 + R / 1024 % 3)) else if R % 8 = 5 then kv_corF K (nI (ke_m K R)) (nI (ke_w K R)) else kv_gifF K (nI (ke_m K R)) (nI (ke_o K R)) (nI (ke_w K R)) (nI 1)
def ke_K (K : ce_V) (R : Nat) : ce_V := if R % 8 < 5 then kv_dri K (ke_m K R) (ke_w K R) (1 + R / 1024 % 3) else if R % 8 = 5 then kv_cor K (ke_m K R) (ke_w K R) else kv_han K (ke_m K R) (ke_o K R) (ke_w K R) 1
def ke_O (K : ce_V) (O : Nat → Int32) (R : Nat) : Nat → Int32 := if R % 8 = 5 then ko_cor K (ke_m K R) (ke_w K R) O else O
end CER
