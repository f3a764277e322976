section
-- ===== PART A: goes FIRST, ahead of the names: the tables' words, and 'selects' of the private methods out of them =====
/-- a private method of a class that the tables say can be made, by its rows of tables_1 -/
def lw_okq (q : MethodName × Nat) : Prop := (q.1.cls ≠ "java/lang/invoke/MethodHandle" ∧ q.1.cls ≠ "java/lang/invoke/VarHandle") ∧ Cond.instantiable q.1.cls q.2 ∈ tables_1 ∧ Cond.privateMethod q.1 ∈ tables_1 ∧ Cond.instanceMethod q.1 ∈ tables_1
theorem lw_p0 : lw_okq (⟨"CellarClub$Text", "readPart", "()Z"⟩, 5) := ⟨⟨by decide +kernel, by decide +kernel⟩, List.mem_of_getElem? (i := 127) (by decide +kernel), List.mem_of_getElem? (i := 258) (by decide +kernel), List.mem_of_getElem? (i := 259) (by decide +kernel)⟩
theorem lw_p1 : lw_okq (⟨"CellarClub$Text", "readMember", "()Z"⟩, 5) := ⟨⟨by decide +kernel, by decide +kernel⟩, List.mem_of_getElem? (i := 127) (by decide +kernel), List.mem_of_getElem? (i := 262) (by decide +kernel), List.mem_of_getElem? (i := 263) (by decide +kernel)⟩
theorem lw_p2 : lw_okq (⟨"CellarClub$Text", "readNumber", "(III)I"⟩, 5) := ⟨⟨by decide +kernel, by decide +kernel⟩, List.mem_of_getElem? (i := 127) (by decide +kernel), List.mem_of_getElem? (i := 266) (by decide +kernel), List.mem_of_getElem? (i := 267) (by decide +kernel)⟩
theorem lw_p3 : lw_okq (⟨"CellarClub$Text", "readWine", "()Z"⟩, 5) := ⟨⟨by decide +kernel, by decide +kernel⟩, List.mem_of_getElem? (i := 127) (by decide +kernel), List.mem_of_getElem? (i := 275) (by decide +kernel), List.mem_of_getElem? (i := 276) (by decide +kernel)⟩
theorem lw_p4 : lw_okq (⟨"CellarClub$Text", "readBin", "()Z"⟩, 5) := ⟨⟨by decide +kernel, by decide +kernel⟩, List.mem_of_getElem? (i := 127) (by decide +kernel), List.mem_of_getElem? (i := 283) (by decide +kernel), List.mem_of_getElem? (i := 284) (by decide +kernel)⟩
theorem lw_p5 : lw_okq (⟨"CellarClub$Text", "readOrder", "()Z"⟩, 5) := ⟨⟨by decide +kernel, by decide +kernel⟩, List.mem_of_getElem? (i := 127) (by decide +kernel), List.mem_of_getElem? (i := 292) (by decide +kernel), List.mem_of_getElem? (i := 293) (by decide +kernel)⟩
theorem lw_p6 : lw_okq (⟨"CellarClub$Packing", "measure", "(LCellarClub$Rack;I)V"⟩, 2) := ⟨⟨by decide +kernel, by decide +kernel⟩, List.mem_of_getElem? (i := 183) (by decide +kernel), List.mem_of_getElem? (i := 316) (by decide +kernel), List.mem_of_getElem? (i := 317) (by decide +kernel)⟩
theorem lw_p7 : lw_okq (⟨"CellarClub$Packing", "packWine", "(II)V"⟩, 2) := ⟨⟨by decide +kernel, by decide +kernel⟩, List.mem_of_getElem? (i := 183) (by decide +kernel), List.mem_of_getElem? (i := 325) (by decide +kernel), List.mem_of_getElem? (i := 326) (by decide +kernel)⟩
theorem lw_p8 : lw_okq (⟨"CellarClub$Packing", "canPack", "(II)Z"⟩, 2) := ⟨⟨by decide +kernel, by decide +kernel⟩, List.mem_of_getElem? (i := 183) (by decide +kernel), List.mem_of_getElem? (i := 329) (by decide +kernel), List.mem_of_getElem? (i := 330) (by decide +kernel)⟩
theorem lw_p9 : lw_okq (⟨"java/lang/Throwable", "fillInStackTrace", "(I)Ljava/lang/Throwable;"⟩, 6) := ⟨⟨by decide +kernel, by decide +kernel⟩, List.mem_of_getElem? (i := 394) (by decide +kernel), List.mem_of_getElem? (i := 392) (by decide +kernel), List.mem_of_getElem? (i := 393) (by decide +kernel)⟩
theorem lw_p10 : lw_okq (⟨"CellarClub$History", "forgetOldest", "()V"⟩, 2) := ⟨⟨by decide +kernel, by decide +kernel⟩, List.mem_of_getElem? (i := 153) (by decide +kernel), List.mem_of_getElem? (i := 590) (by decide +kernel), List.mem_of_getElem? (i := 591) (by decide +kernel)⟩
theorem lw_p11 : lw_okq (⟨"CellarClub$Club", "nextToGet", "(I)I"⟩, 14) := ⟨⟨by decide +kernel, by decide +kernel⟩, List.mem_of_getElem? (i := 28) (by decide +kernel), List.mem_of_getElem? (i := 648) (by decide +kernel), List.mem_of_getElem? (i := 649) (by decide +kernel)⟩
theorem lw_p12 : lw_okq (⟨"CellarClub$Club", "comesBefore", "(III)Z"⟩, 14) := ⟨⟨by decide +kernel, by decide +kernel⟩, List.mem_of_getElem? (i := 28) (by decide +kernel), List.mem_of_getElem? (i := 653) (by decide +kernel), List.mem_of_getElem? (i := 654) (by decide +kernel)⟩
theorem lw_p13 : lw_okq (⟨"CellarClub$Club", "paidAhead", "(II)I"⟩, 14) := ⟨⟨by decide +kernel, by decide +kernel⟩, List.mem_of_getElem? (i := 28) (by decide +kernel), List.mem_of_getElem? (i := 661) (by decide +kernel), List.mem_of_getElem? (i := 662) (by decide +kernel)⟩
theorem lw_p14 : lw_okq (⟨"CellarClub$Rack", "binToFillUp", "(I)I"⟩, 4) := ⟨⟨by decide +kernel, by decide +kernel⟩, List.mem_of_getElem? (i := 45) (by decide +kernel), List.mem_of_getElem? (i := 693) (by decide +kernel), List.mem_of_getElem? (i := 694) (by decide +kernel)⟩
theorem lw_p15 : lw_okq (⟨"CellarClub$Rack", "emptyBinFor", "(I)I"⟩, 4) := ⟨⟨by decide +kernel, by decide +kernel⟩, List.mem_of_getElem? (i := 45) (by decide +kernel), List.mem_of_getElem? (i := 697) (by decide +kernel), List.mem_of_getElem? (i := 698) (by decide +kernel)⟩
def lw_privs_1 : List (MethodName × Nat) := [(⟨"CellarClub$Text", "readPart", "()Z"⟩, 5), (⟨"CellarClub$Text", "readMember", "()Z"⟩, 5), (⟨"CellarClub$Text", "readNumber", "(III)I"⟩, 5), (⟨"CellarClub$Text", "readWine", "()Z"⟩, 5), (⟨"CellarClub$Text", "readBin", "()Z"⟩, 5), (⟨"CellarClub$Text", "readOrder", "()Z"⟩, 5), (⟨"CellarClub$Packing", "measure", "(LCellarClub$Rack;I)V"⟩, 2), (⟨"CellarClub$Packing", "packWine", "(II)V"⟩, 2), (⟨"CellarClub$Packing", "canPack", "(II)Z"⟩, 2), (⟨"java/lang/Throwable", "fillInStackTrace", "(I)Ljava/lang/Throwable;"⟩, 6), (⟨"CellarClub$History", "forgetOldest", "()V"⟩, 2), (⟨"CellarClub$Club", "nextToGet", "(I)I"⟩, 14), (⟨"CellarClub$Club", "comesBefore", "(III)Z"⟩, 14), (⟨"CellarClub$Club", "paidAhead", "(II)I"⟩, 14), (⟨"CellarClub$Rack", "binToFillUp", "(I)I"⟩, 4), (⟨"CellarClub$Rack", "emptyBinFor", "(I)I"⟩, 4)]
theorem lw_r1 : ∀ q ∈ lw_privs_1, lw_okq q := List.forall_mem_cons.mpr ⟨lw_p0, List.forall_mem_cons.mpr ⟨lw_p1, List.forall_mem_cons.mpr ⟨lw_p2, List.forall_mem_cons.mpr ⟨lw_p3, List.forall_mem_cons.mpr ⟨lw_p4, List.forall_mem_cons.mpr ⟨lw_p5, List.forall_mem_cons.mpr ⟨lw_p6, List.forall_mem_cons.mpr ⟨lw_p7, List.forall_mem_cons.mpr ⟨lw_p8, List.forall_mem_cons.mpr ⟨lw_p9, List.forall_mem_cons.mpr ⟨lw_p10, List.forall_mem_cons.mpr ⟨lw_p11, List.forall_mem_cons.mpr ⟨lw_p12, List.forall_mem_cons.mpr ⟨lw_p13, List.forall_mem_cons.mpr ⟨lw_p14, List.forall_mem_cons.mpr ⟨lw_p15, fun _ h => absurd h List.not_mem_nil⟩⟩⟩⟩⟩⟩⟩⟩⟩⟩⟩⟩⟩⟩⟩⟩
theorem lw_p16 : lw_okq (⟨"CellarClub$Rack", "putInto", "(III)V"⟩, 4) := ⟨⟨by decide +kernel, by decide +kernel⟩, List.mem_of_getElem? (i := 45) (by decide +kernel), List.mem_of_getElem? (i := 705) (by decide +kernel), List.mem_of_getElem? (i := 706) (by decide +kernel)⟩
theorem lw_p17 : lw_okq (⟨"CellarClub$Rack", "binToTakeFrom", "(I)I"⟩, 4) := ⟨⟨by decide +kernel, by decide +kernel⟩, List.mem_of_getElem? (i := 45) (by decide +kernel), List.mem_of_getElem? (i := 728) (by decide +kernel), List.mem_of_getElem? (i := 729) (by decide +kernel)⟩
theorem lw_p18 : lw_okq (⟨"CellarClub$Rack", "removeFrom", "(II)V"⟩, 4) := ⟨⟨by decide +kernel, by decide +kernel⟩, List.mem_of_getElem? (i := 45) (by decide +kernel), List.mem_of_getElem? (i := 732) (by decide +kernel), List.mem_of_getElem? (i := 733) (by decide +kernel)⟩
theorem lw_p19 : lw_okq (⟨"CellarClub", "restoreFault", "(I)I"⟩, 7) := ⟨⟨by decide +kernel, by decide +kernel⟩, List.mem_of_getElem? (i := 20) (by decide +kernel), List.mem_of_getElem? (i := 928) (by decide +kernel), List.mem_of_getElem? (i := 929) (by decide +kernel)⟩
theorem lw_p20 : lw_okq (⟨"CellarClubModel", "refused", "(I)Z"⟩, 15) := ⟨⟨by decide +kernel, by decide +kernel⟩, List.mem_of_getElem? (i := 932) (by decide +kernel), List.mem_of_getElem? (i := 996) (by decide +kernel), List.mem_of_getElem? (i := 997) (by decide +kernel)⟩
theorem lw_p21 : lw_okq (⟨"CellarClubModel", "readText", "()I"⟩, 15) := ⟨⟨by decide +kernel, by decide +kernel⟩, List.mem_of_getElem? (i := 932) (by decide +kernel), List.mem_of_getElem? (i := 1008) (by decide +kernel), List.mem_of_getElem? (i := 1009) (by decide +kernel)⟩
theorem lw_p22 : lw_okq (⟨"CellarClubModel", "isNext", "(I)Z"⟩, 15) := ⟨⟨by decide +kernel, by decide +kernel⟩, List.mem_of_getElem? (i := 932) (by decide +kernel), List.mem_of_getElem? (i := 1012) (by decide +kernel), List.mem_of_getElem? (i := 1013) (by decide +kernel)⟩
theorem lw_p23 : lw_okq (⟨"CellarClubModel", "accept", "(Z)V"⟩, 15) := ⟨⟨by decide +kernel, by decide +kernel⟩, List.mem_of_getElem? (i := 932) (by decide +kernel), List.mem_of_getElem? (i := 1016) (by decide +kernel), List.mem_of_getElem? (i := 1017) (by decide +kernel)⟩
theorem lw_p24 : lw_okq (⟨"CellarClubModel", "readPart", "()V"⟩, 15) := ⟨⟨by decide +kernel, by decide +kernel⟩, List.mem_of_getElem? (i := 932) (by decide +kernel), List.mem_of_getElem? (i := 1020) (by decide +kernel), List.mem_of_getElem? (i := 1021) (by decide +kernel)⟩
theorem lw_p25 : lw_okq (⟨"CellarClubModel", "digit", "(II)I"⟩, 15) := ⟨⟨by decide +kernel, by decide +kernel⟩, List.mem_of_getElem? (i := 932) (by decide +kernel), List.mem_of_getElem? (i := 1024) (by decide +kernel), List.mem_of_getElem? (i := 1025) (by decide +kernel)⟩
theorem lw_p26 : lw_okq (⟨"CellarClubModel", "two", "(II)I"⟩, 15) := ⟨⟨by decide +kernel, by decide +kernel⟩, List.mem_of_getElem? (i := 932) (by decide +kernel), List.mem_of_getElem? (i := 1030) (by decide +kernel), List.mem_of_getElem? (i := 1031) (by decide +kernel)⟩
theorem lw_p27 : lw_okq (⟨"CellarClubModel", "isMember", "(I)Z"⟩, 15) := ⟨⟨by decide +kernel, by decide +kernel⟩, List.mem_of_getElem? (i := 932) (by decide +kernel), List.mem_of_getElem? (i := 1088) (by decide +kernel), List.mem_of_getElem? (i := 1089) (by decide +kernel)⟩
theorem lw_p28 : lw_okq (⟨"CellarClubModel", "isWine", "(I)Z"⟩, 15) := ⟨⟨by decide +kernel, by decide +kernel⟩, List.mem_of_getElem? (i := 932) (by decide +kernel), List.mem_of_getElem? (i := 1100) (by decide +kernel), List.mem_of_getElem? (i := 1101) (by decide +kernel)⟩
theorem lw_p29 : lw_okq (⟨"CellarClubModel", "isBin", "(I)Z"⟩, 15) := ⟨⟨by decide +kernel, by decide +kernel⟩, List.mem_of_getElem? (i := 932) (by decide +kernel), List.mem_of_getElem? (i := 1112) (by decide +kernel), List.mem_of_getElem? (i := 1113) (by decide +kernel)⟩
theorem lw_p30 : lw_okq (⟨"CellarClubModel", "remember", "()V"⟩, 15) := ⟨⟨by decide +kernel, by decide +kernel⟩, List.mem_of_getElem? (i := 932) (by decide +kernel), List.mem_of_getElem? (i := 1126) (by decide +kernel), List.mem_of_getElem? (i := 1127) (by decide +kernel)⟩
theorem lw_p31 : lw_okq (⟨"CellarClubModel", "goAllocate", "([II)I"⟩, 15) := ⟨⟨by decide +kernel, by decide +kernel⟩, List.mem_of_getElem? (i := 932) (by decide +kernel), List.mem_of_getElem? (i := 1149) (by decide +kernel), List.mem_of_getElem? (i := 1150) (by decide +kernel)⟩
def lw_privs_2 : List (MethodName × Nat) := [(⟨"CellarClub$Rack", "putInto", "(III)V"⟩, 4), (⟨"CellarClub$Rack", "binToTakeFrom", "(I)I"⟩, 4), (⟨"CellarClub$Rack", "removeFrom", "(II)V"⟩, 4), (⟨"CellarClub", "restoreFault", "(I)I"⟩, 7), (⟨"CellarClubModel", "refused", "(I)Z"⟩, 15), (⟨"CellarClubModel", "readText", "()I"⟩, 15), (⟨"CellarClubModel", "isNext", "(I)Z"⟩, 15), (⟨"CellarClubModel", "accept", "(Z)V"⟩, 15), (⟨"CellarClubModel", "readPart", "()V"⟩, 15), (⟨"CellarClubModel", "digit", "(II)I"⟩, 15), (⟨"CellarClubModel", "two", "(II)I"⟩, 15), (⟨"CellarClubModel", "isMember", "(I)Z"⟩, 15), (⟨"CellarClubModel", "isWine", "(I)Z"⟩, 15), (⟨"CellarClubModel", "isBin", "(I)Z"⟩, 15), (⟨"CellarClubModel", "remember", "()V"⟩, 15), (⟨"CellarClubModel", "goAllocate", "([II)I"⟩, 15)]
theorem lw_r2 : ∀ q ∈ lw_privs_2, lw_okq q := List.forall_mem_cons.mpr ⟨lw_p16, List.forall_mem_cons.mpr ⟨lw_p17, List.forall_mem_cons.mpr ⟨lw_p18, List.forall_mem_cons.mpr ⟨lw_p19, List.forall_mem_cons.mpr ⟨lw_p20, List.forall_mem_cons.mpr ⟨lw_p21, List.forall_mem_cons.mpr ⟨lw_p22, List.forall_mem_cons.mpr ⟨lw_p23, List.forall_mem_cons.mpr ⟨lw_p24, List.forall_mem_cons.mpr ⟨lw_p25, List.forall_mem_cons.mpr ⟨lw_p26, List.forall_mem_cons.mpr ⟨lw_p27, List.forall_mem_cons.mpr ⟨lw_p28, List.forall_mem_cons.mpr ⟨lw_p29, List.forall_mem_cons.mpr ⟨lw_p30, List.forall_mem_cons.mpr ⟨lw_p31, fun _ h => absurd h List.not_mem_nil⟩⟩⟩⟩⟩⟩⟩⟩⟩⟩⟩⟩⟩⟩⟩⟩
theorem lw_p32 : lw_okq (⟨"CellarClubModel", "layGot", "([II)I"⟩, 15) := ⟨⟨by decide +kernel, by decide +kernel⟩, List.mem_of_getElem? (i := 932) (by decide +kernel), List.mem_of_getElem? (i := 1153) (by decide +kernel), List.mem_of_getElem? (i := 1154) (by decide +kernel)⟩
theorem lw_p33 : lw_okq (⟨"CellarClubModel", "isAhead", "([III)Z"⟩, 15) := ⟨⟨by decide +kernel, by decide +kernel⟩, List.mem_of_getElem? (i := 932) (by decide +kernel), List.mem_of_getElem? (i := 1157) (by decide +kernel), List.mem_of_getElem? (i := 1158) (by decide +kernel)⟩
theorem lw_p34 : lw_okq (⟨"CellarClubModel", "layWine", "(I)V"⟩, 15) := ⟨⟨by decide +kernel, by decide +kernel⟩, List.mem_of_getElem? (i := 932) (by decide +kernel), List.mem_of_getElem? (i := 1243) (by decide +kernel), List.mem_of_getElem? (i := 1244) (by decide +kernel)⟩
theorem lw_p35 : lw_okq (⟨"CellarClubModel", "begin", "()V"⟩, 15) := ⟨⟨by decide +kernel, by decide +kernel⟩, List.mem_of_getElem? (i := 932) (by decide +kernel), List.mem_of_getElem? (i := 1265) (by decide +kernel), List.mem_of_getElem? (i := 1266) (by decide +kernel)⟩
theorem lw_p36 : lw_okq (⟨"CellarClubModel", "does", "(I)Z"⟩, 15) := ⟨⟨by decide +kernel, by decide +kernel⟩, List.mem_of_getElem? (i := 932) (by decide +kernel), List.mem_of_getElem? (i := 1270) (by decide +kernel), List.mem_of_getElem? (i := 1271) (by decide +kernel)⟩
theorem lw_p37 : lw_okq (⟨"CellarClubModel", "evening", "(I)V"⟩, 15) := ⟨⟨by decide +kernel, by decide +kernel⟩, List.mem_of_getElem? (i := 932) (by decide +kernel), List.mem_of_getElem? (i := 1283) (by decide +kernel), List.mem_of_getElem? (i := 1284) (by decide +kernel)⟩
def lw_privs_3 : List (MethodName × Nat) := [(⟨"CellarClubModel", "layGot", "([II)I"⟩, 15), (⟨"CellarClubModel", "isAhead", "([III)Z"⟩, 15), (⟨"CellarClubModel", "layWine", "(I)V"⟩, 15), (⟨"CellarClubModel", "begin", "()V"⟩, 15), (⟨"CellarClubModel", "does", "(I)Z"⟩, 15), (⟨"CellarClubModel", "evening", "(I)V"⟩, 15)]
theorem lw_r3 : ∀ q ∈ lw_privs_3, lw_okq q := List.forall_mem_cons.mpr ⟨lw_p32, List.forall_mem_cons.mpr ⟨lw_p33, List.forall_mem_cons.mpr ⟨lw_p34, List.forall_mem_cons.mpr ⟨lw_p35, List.forall_mem_cons.mpr ⟨lw_p36, List.forall_mem_cons.mpr ⟨lw_p37, fun _ h => absurd h List.not_mem_nil⟩⟩⟩⟩⟩⟩
def lw_privs : List (MethodName × Nat) := lw_privs_1 ++ (lw_privs_2 ++ (lw_privs_3))
def lw_tbl : List Cond := k2_sels lw_privs ++ tables_1
theorem lw_privs_ok : ∀ q ∈ lw_privs, lw_okq q := by
  show ∀ q ∈ lw_privs_1 ++ (lw_privs_2 ++ (lw_privs_3)), lw_okq q
  exact List.forall_mem_append.mpr ⟨lw_r1, List.forall_mem_append.mpr ⟨lw_r2, lw_r3⟩⟩
-- ===== end of PART A; then your names; then what follows =====
end
section
/-! ===== BEGIN words of one list among another's, by their places ===== -/
theorem goodIn_r {big : List Cond} (ws : List Cond) (ps : List Nat) (hp : ws = ps.filterMap (fun i => big[i]?)) (h : ws.all goodWord = true) : GoodIn big ws := by
  intro w hw
  have h1 := List.all_eq_true.mp h w hw
  rw [hp] at hw
  obtain ⟨i, -, hi⟩ := List.mem_filterMap.mp hw
  have hm : w ∈ big := by first | exact List.mem_of_getElem? hi | exact List.getElem?_mem hi
  exact ⟨hm, good_of_word h1⟩
theorem goodIn_app {big a b : List Cond} (ha : GoodIn big a) (hb : GoodIn big b) : GoodIn big (a ++ b) := fun w h => (List.mem_append.mp h).elim (ha w) (hb w)
theorem goodIn_ca {big a b : List Cond} {c : Cond} (ha : GoodIn big (c :: a)) (hb : GoodIn big b) : GoodIn big (c :: (a ++ b)) := fun w h => (List.mem_cons.mp h).elim (fun e => ha w (List.mem_cons.mpr (Or.inl e))) (fun h => (List.mem_append.mp h).elim (fun h => ha w (List.mem_cons.mpr (Or.inr h))) (hb w))
theorem goodIn_sub {big ws : List Cond} (hm : ∀ w ∈ ws, w ∈ big) (h : ws.all goodWord = true) : GoodIn big ws := fun w hw => ⟨hm w hw, good_of_word (List.all_eq_true.mp h w hw)⟩
/-! ===== END ===== -/

/-! ===== BEGIN exceptions that leave a method, and their catching by the caller (launches without stack traces) ===== -/
section VXA
/-! The laws vx_back, vx_callV, vx_callS, vx_callSW, vx_throw0, vx_throwS follow proofs of the library, with one case more: JvmDerived/Free/Laws.lean (Back.of_free), Shelf42/LK1.lean (callV, callS), Shelf/KitTraced.lean (throwNew0V, throwNewS). -/
/-- where a method has thrown q: the class by its name, the cell, what was written, the world -/
def vx_T (XC : String → State → State → Prop) (st : State) (q : Addr) (t : State) (mc ms : Nat) (free : Addr → Prop) : Prop :=
  ∃ (E : String) (ce : Cell) (L : List Loc), XC E st t ∧ t.heap[q]? = some ce ∧ ce.vm = .none ∧ st.vm.findClass E = some ce.cls ∧ st.WarmedH t.vm ∧ st.sameButNew ({ t with vm := st.vm } : State) L mc ms ∧ ∀ z ∈ L, free z.base
def vx_Q (Qc : Array Value → State → Outcome → State → Prop) (XC : String → State → State → Prop) (mc ms : Nat) (free : Addr → Prop) : Array Value → State → Outcome → State → Prop := fun a st o t =>
  (Qc a st o t ∧ ∃ L, FrameEnd st o t L mc ms ∧ ∀ q ∈ L, free q.base) ∨ ∃ q, o = .threw q ∧ vx_T XC st q t mc ms free
/-- a callee that returns or throws -/
def vx_Met (l : Launch) (y : MethodName) (ws : List Cond) (rm : Room) (Pc : Array Value → State → Prop) (Qc : Array Value → State → Outcome → State → Prop) (XC : String → State → State → Prop) (mc ms : Nat) (free : Addr → Prop) : Prop :=
  MetFree l y (headSpec ws rm) Pc (fun _ _ _ _ _ => True) (vx_Q Qc XC mc ms free)
def vx_Post (XC : String → State → State → Prop) (mc ms : Nat) (free : Addr → Prop) : Pt → Array Value → Addr → Pt → Prop := fun A a q B =>
  ∃ (g : JFrame) (mk : MethodId) (t : State) (L : List Loc) (E : String) (ce : Cell), B.U.heap = t.heap ∧ B.U.vm = t.vm ∧ XC E (A.U.calling g mk a) t ∧ t.heap[q]? = some ce ∧ ce.vm = .none ∧ A.U.vm.findClass E = some ce.cls ∧ B.locs = A.locs ++ L ∧ (∀ z ∈ L, free z.base) ∧ B.cells = A.cells + mc ∧ B.slots = A.slots + ms
def vx_Back (l : Launch) (R : Room) (p : Program) (e : Env) (below : List Frame) (s : State) (sargs : Array Value) (y : MethodName) (len W9 : Nat)
    (Pre : Pt → Array Value → Prop) (Post : Pt → Array Value → Option Value → Pt → Prop) (PostX : Pt → Array Value → Addr → Pt → Prop) : Prop :=
  ∀ (m : MethodId) (meth : Method) (c : Code) (A : Pt) (g : JFrame) (ig : Instr) (mk : MethodId) (a : Array Value),
    Stand p l e R s m sargs below meth c A.U A.locs A.cells A.slots → g.method = m → g.locals.size = c.maxLocals → decode c.code g.pc = .ok (ig, len) →
    2 * g.monitorRoom + (g.stack.map fun v => v.category).sum ≤ W9 → A.U.methodNamed? y = some mk → Pre A a →
    (∃ (v : Option Value) (B : Pt), Stand p l e R s m sargs below meth c B.U B.locs B.cells B.slots ∧ Post A a v B ∧
      Steps p.tables e below (doInvoke e (A.U.setTop g) [] mk a).1 (B.U.setTop { g with pc := g.pc + len, stack := v.toList ++ g.stack })) ∨
    (∃ (q : Addr) (B : Pt), Stand p l e R s m sargs below meth c B.U B.locs B.cells B.slots ∧ PostX A a q B ∧
      Steps p.tables e below (doInvoke e (A.U.setTop g) [] mk a).1 ((B.U.setTop g).pushFrame (.throwing q)))
section Payer
variable {l : Launch} {R : Room} {p : Program} {e : Env} {below : List Frame} {s : State} {sargs : Array Value} {y : MethodName} {len W9 : Nat}
theorem vx_back {ws : List Cond} {rm : Room} {Pc : Array Value → State → Prop} {Qc : Array Value → State → Outcome → State → Prop} {XC : String → State → State → Prop} {mc ms : Nat} {free : Addr → Prop} {bytes : ByteArray} {maxL : Nat} {ret : Option FieldType}
    (hM : vx_Met l y ws rm Pc Qc XC mc ms free) (hblind : FrameBlind Pc) (hrc : rm.cells = mc) (hrs : rm.slots = ms)
    (hframes : rm.frames + 1 ≤ R.frames) (hlocals : W9 + (maxL + 11) + rm.locals ≤ R.locals)
    (hws : ∀ w ∈ ws, ∀ a' U, s.WarmedH U.vm → w.before a' U = true) (hcode : Cond.code y bytes maxL ret ∈ ws) (hinit : ∀ a' U, s.WarmedH U.vm → (Cond.initialized y.cls).before a' U = true) :
    vx_Back l R p e below s sargs y len W9 (PreOf R mc ms Pc) (PostOf Qc mc ms free) (vx_Post XC mc ms free) := by
  intro m meth c A g ig mk a X hg hsize hdg hW hn hp
  have h1 : (headSpec ws rm).pre.before a A.U = true := atoms_intro fun w hw => hws w hw _ _ X.warmed
  have h2 : (Cond.code y bytes maxL ret).before a A.U = true := hws _ hcode _ _ X.warmed
  have h3 : (Cond.initialized y.cls).before a A.U = true := hinit _ _ X.warmed
  have h4 : A.cells + (headSpec ws rm).room.cells ≤ R.cells := by rw [show (headSpec ws rm).room.cells = mc from hrc]; exact hp.1
  have h5 : A.slots + (headSpec ws rm).room.slots ≤ R.slots := by rw [show (headSpec ws rm).room.slots = ms from hrs]; exact hp.2.1
  have hPc : Pc a (A.U.calling g mk a) := hblind _ _ _ _ hp.2.2
  obtain ⟨U, Ls, c0, s0⟩ := A
  dsimp only [Pt.U, Pt.locs, Pt.cells, Pt.slots] at h1 h2 h3 h4 h5 X hn hPc ⊢
  obtain ⟨methY, cY, hmY, hcY, -, hlY, -, -, -, -⟩ := Cond.code_spec hn h2
  obtain ⟨kY, hkY, -⟩ := className_of_methodNamed hn
  have hinitY : kY.init = .initialized := Cond.initialized_spec (findClass_of_methodNamed hn) hkY h3
  have h : At U g.method c below := by rw [hg]; exact X.here
  have hlocals9 : W9 + (maxL + 11) + (headSpec ws rm).room.locals ≤ R.locals := hlocals
  have happ : (headSpec ws rm).appliesLoose y e.platform (U.calling g mk a) = true :=
    Spec.appliesLoose_calling (g := g) h hdg hn hkY hinitY
      (X.room_calling (g := g) (R' := (headSpec ws rm).room) hsize hmY hcY hframes (by rw [hlY]; omega) h4 h5) h1
  obtain ⟨mid, hmid⟩ := h.above
  have hfr : (U.setTop g).frames = (.java g :: mid) ++ below := by rw [State.frames_setTop' g h.top, hmid]; rfl
  obtain ⟨o, s₂, hsteps, -, hend, hq⟩ := Steps.callFree hM p X.admits X.cas X.clock (acts := []) hfr happ hPc trivial
  have hq' : vx_Q Qc XC mc ms free a (U.calling g mk a) o s₂ := hq
  rw [State.frames_setTop' g h.top] at hend
  obtain ⟨g₀, hg0⟩ := Option.isSome_iff_exists.mp h.top
  obtain ⟨r, hr⟩ := State.topJava?_eq_some.mp hg0
  have hr' : (({ U with heap := s₂.heap, slotsUsed := s₂.slotsUsed } : State).setVm s₂.vm).frames = .java g₀ :: r := hr
  rcases hq' with ⟨hqc, L, hfe, hL⟩ | ⟨q, rfl, E, ce, L, hx, hce, hcv, hcl, hW₂, hsm, hL⟩
  · obtain ⟨⟨v, rfl⟩, hW₂, e2, q2, q3, q4, q5, q6⟩ := id hfe
    have e3 : s₂ = ({ (U.calling g mk a).setFrames s₂.frames with heap := s₂.heap, slotsUsed := s₂.slotsUsed } : State).setVm s₂.vm := by
      have : s₂ = ({ s₂ with vm := (U.calling g mk a).vm } : State).setVm s₂.vm := rfl
      rw [e2] at this
      exact this
    obtain ⟨c₂, i₂, len₂, hc₂, hd₂, hf₂⟩ := hend
    have hW' : U.WarmedH s₂.vm := hW₂
    have hcc : c₂ = c := by
      have h1 : s₂.code? g.method = U.code? g.method := by
        rw [State.code?_eq, State.code?_eq, hW'.alike.method?]
      exact Option.some.inj (hc₂.symm.trans (h1.trans h.code))
    subst hcc
    have hlen : len₂ = len := by rw [hdg] at hd₂; cases hd₂; rfl
    subst hlen
    have hs₂ : s₂ = (({ U with heap := s₂.heap, slotsUsed := s₂.slotsUsed } : State).setVm s₂.vm).setTop { g with pc := g.pc + len₂, stack := v.toList ++ g.stack } := by
      refine e3.trans ?_
      rw [hf₂, State.calling_eq h.top, State.setFrames_setFrames, State.setTop_of_frames _ hr', hr]
      rfl
    have hsame : U.sameButNew ({ U with heap := s₂.heap, slotsUsed := s₂.slotsUsed } : State) L mc ms := by
      refine ⟨?_, q2, q3, q4, q5, q6⟩
      obtain ⟨t, ht, -⟩ := State.frames_cons hr
      show ({ U with heap := s₂.heap, slotsUsed := s₂.slotsUsed } : State) = { U.setFrames U.frames with heap := s₂.heap, slotsUsed := s₂.slotsUsed }
      rw [State.setFrames_self ht]
    subst hg
    refine Or.inl ⟨v, ⟨(({ U with heap := s₂.heap, slotsUsed := s₂.slotsUsed } : State).setVm s₂.vm), Ls ++ L, c0 + mc, s0 + ms⟩,
      ⟨X.admits, X.cas, X.clock, X.frames, X.room, X.hears, X.method, X.code, (X.here.setHeapUsed s₂.heap s₂.slotsUsed).setVm hW'.alike, X.tail, State.WarmedH.trans X.warmed hW', X.limits, X.bytes, X.same.trans (hsame.setVm s.vm)⟩,
      ⟨g, mk, s₂, L, rfl, rfl, hqc, rfl, hL, rfl, rfl⟩, ?_⟩
    show Steps p.tables e below _ ((({ U with heap := s₂.heap, slotsUsed := s₂.slotsUsed } : State).setVm s₂.vm).setTop { g with pc := g.pc + len₂, stack := v.toList ++ g.stack })
    rw [← hs₂]
    exact hsteps
  · obtain ⟨e2, q2, q3, q4, q5, q6⟩ := id hsm
    have e3 : s₂ = ({ (U.calling g mk a).setFrames s₂.frames with heap := s₂.heap, slotsUsed := s₂.slotsUsed } : State).setVm s₂.vm := by
      have : s₂ = ({ s₂ with vm := (U.calling g mk a).vm } : State).setVm s₂.vm := rfl
      rw [e2] at this
      exact this
    have hf₂ : s₂.frames = .throwing q :: .java g :: U.frames.tail := hend
    have hW' : U.WarmedH s₂.vm := hW₂
    have hs₂ : s₂ = ((({ U with heap := s₂.heap, slotsUsed := s₂.slotsUsed } : State).setVm s₂.vm).setTop g).pushFrame (.throwing q) := by
      refine e3.trans ?_
      rw [hf₂, State.calling_eq h.top, State.setFrames_setFrames, State.pushFrame, State.frames_setTop _ hr', State.setTop_of_frames _ hr', State.setFrames_setFrames, hr]
      rfl
    have hsame : U.sameButNew ({ U with heap := s₂.heap, slotsUsed := s₂.slotsUsed } : State) L mc ms := by
      refine ⟨?_, q2, q3, q4, q5, q6⟩
      obtain ⟨t, ht, -⟩ := State.frames_cons hr
      show ({ U with heap := s₂.heap, slotsUsed := s₂.slotsUsed } : State) = { U.setFrames U.frames with heap := s₂.heap, slotsUsed := s₂.slotsUsed }
      rw [State.setFrames_self ht]
    subst hg
    refine Or.inr ⟨q, ⟨(({ U with heap := s₂.heap, slotsUsed := s₂.slotsUsed } : State).setVm s₂.vm), Ls ++ L, c0 + mc, s0 + ms⟩,
      ⟨X.admits, X.cas, X.clock, X.frames, X.room, X.hears, X.method, X.code, (X.here.setHeapUsed s₂.heap s₂.slotsUsed).setVm hW'.alike, X.tail, State.WarmedH.trans X.warmed hW', X.limits, X.bytes, X.same.trans (hsame.setVm s.vm)⟩,
      ⟨g, mk, s₂, L, E, ce, rfl, rfl, hx, hce, hcv, hcl, rfl, hL, rfl, rfl⟩, ?_⟩
    show Steps p.tables e below _ (((({ U with heap := s₂.heap, slotsUsed := s₂.slotsUsed } : State).setVm s₂.vm).setTop g).pushFrame (.throwing q))
    rw [← hs₂]
    exact hsteps
end Payer
section Calls
variable {p : Program} {l : Launch} {e : Env} {R : Room} {s : State} {m : MethodId} {args : Array Value} {below : List Frame} {meth : Method} {c : Code} {T : State} {locs : List Loc} {cells slots : Nat}
theorem vx_callV (X : Stand p l e R s m args below meth c T locs cells slots) (hexec : p.tables.exec = Jvm.exec) {own C : String} {index : Nat} {y : MethodName} {bytes : ByteArray} {maxL : Nat} {ret : Option FieldType}
    (hown : s.vm.findClass own = some m.cls) (hlink : (Cond.methodLink own index y).before args s = true) (hinst : (Cond.instanceMethod y).before args s = true) (hsel : (Cond.selects C y y).before args s = true)
    (hcode : (Cond.code y bytes maxL ret).before args s = true) (hy : y.cls ≠ "java/lang/invoke/MethodHandle" ∧ y.cls ≠ "java/lang/invoke/VarHandle")
    {W9 : Nat} {Pre : Pt → Array Value → Prop} {Post : Pt → Array Value → Option Value → Pt → Prop} {PostX : Pt → Array Value → Addr → Pt → Prop} (hK : vx_Back l R p e below s args y 3 W9 Pre Post PostX)
    {b : Addr} {cellB : Cell} (hcell : T.heap[b]? = some cellB) (hobj : cellB.vm.isStatics = false) (hcls : s.vm.findClass C = some cellB.cls)
    {g : JFrame} (hg : g.method = m) (hsize : g.locals.size = c.maxLocals) {argsL rest : List Value} (hlen : ∀ sig, parseMethodDescriptor y.desc = some sig → argsL.length = sig.parameters.length)
    (hstack : g.stack = argsL.reverse ++ .ref b :: rest) (hW : 2 * g.monitorRoom + (rest.map fun v => v.category).sum ≤ W9) (hdg : decode c.code g.pc = .ok (.invokevirtual index, 3))
    (hpre : ∀ vm₁, s.WarmedH vm₁ → Pre ⟨T.setVm vm₁, locs, cells, slots⟩ (Value.ref b :: argsL).toArray) :
    (∃ (v : Option Value) (vm₁ : Vm) (B : Pt), s.WarmedH vm₁ ∧ Stand p l e R s m args below meth c B.U B.locs B.cells B.slots ∧ Post ⟨T.setVm vm₁, locs, cells, slots⟩ (Value.ref b :: argsL).toArray v B ∧
      ∀ target, Steps p.tables e below (B.U.setTop { g with pc := g.pc + 3, stack := v.toList ++ rest }) target → Steps p.tables e below (T.setTop g) target) ∨
    (∃ (q : Addr) (vm₁ : Vm) (B : Pt), s.WarmedH vm₁ ∧ Stand p l e R s m args below meth c B.U B.locs B.cells B.slots ∧ PostX ⟨T.setVm vm₁, locs, cells, slots⟩ (Value.ref b :: argsL).toArray q B ∧
      Steps p.tables e below (T.setTop g) ((B.U.setTop { g with stack := rest }).pushFrame (.throwing q))) := by
  obtain ⟨mk, methM, hnamed, hmethM, hstM, habM⟩ := Cond.instanceMethod_spec hinst
  obtain ⟨methM', cM, hmethM', -, -, -, -, -, -, hsigM⟩ := Cond.code_spec hnamed hcode
  cases hmethM.symm.trans hmethM'
  obtain ⟨c2, r2, m2, q1, q2, q3, q4, kP, hkP, hkPi⟩ := Cond.selects_spec hsel
  cases hcls.symm.trans q1
  cases (State.methodFound?_of_named hnamed hy).symm.trans q2
  cases hnamed.symm.trans q3
  have hselP : selectMethod e.platform s.vm cellB.cls mk = .method mk := by rw [Launch.admits_selectMethod X.admits]; exact q4
  obtain ⟨vm₁, X₁, hstep₁⟩ := X.invokevirtual hexec hown hlink hnamed hmethM hstM hkP hkPi hy (a := b) (cell := cellB) hcell
    (fun z h => by rw [h] at hobj; cases hobj) hselP hmethM habM hkP hkPi (g := g) hg (argsL := argsL) (rest := rest) (hlen _ hsigM) hstack hdg
  rcases hK m meth c ⟨T.setVm vm₁, locs, cells, slots⟩ { g with stack := rest } (.invokevirtual index) mk (Value.ref b :: argsL).toArray X₁ hg hsize hdg hW (X₁.named hnamed) (hpre vm₁ X₁.warmed) with ⟨v, B, X', hpost, hsteps⟩ | ⟨q, B, X', hpost, hsteps⟩
  · exact Or.inl ⟨v, vm₁, B, X₁.warmed, X', hpost, fun target h => hstep₁ _ fun acts => by rw [doInvoke_state]; exact hsteps.trans h⟩
  · exact Or.inr ⟨q, vm₁, B, X₁.warmed, X', hpost, hstep₁ _ fun acts => by rw [doInvoke_state]; exact hsteps⟩
theorem vx_callS (X : Stand p l e R s m args below meth c T locs cells slots) (hexec : p.tables.exec = Jvm.exec) {own : String} {index : Nat} {y : MethodName} {bytes : ByteArray} {maxL : Nat} {ret : Option FieldType}
    (hown : s.vm.findClass own = some m.cls) (hlink : (Cond.methodLink own index y).before args s = true) (hstat : (Cond.static y).before args s = true) (hinit : (Cond.initialized y.cls).before args s = true)
    (hcode : (Cond.code y bytes maxL ret).before args s = true) (hy : y.cls ≠ "java/lang/invoke/MethodHandle" ∧ y.cls ≠ "java/lang/invoke/VarHandle")
    {W9 : Nat} {Pre : Pt → Array Value → Prop} {Post : Pt → Array Value → Option Value → Pt → Prop} {PostX : Pt → Array Value → Addr → Pt → Prop} (hK : vx_Back l R p e below s args y 3 W9 Pre Post PostX)
    {g : JFrame} (hg : g.method = m) (hsize : g.locals.size = c.maxLocals) {argsL rest : List Value} (hlen : ∀ sig, parseMethodDescriptor y.desc = some sig → argsL.length = sig.parameters.length)
    (hstack : g.stack = argsL.reverse ++ rest) (hW : 2 * g.monitorRoom + (rest.map fun v => v.category).sum ≤ W9) (hdg : decode c.code g.pc = .ok (.invokestatic index, 3))
    (hpre : ∀ vm₁, s.WarmedH vm₁ → Pre ⟨T.setVm vm₁, locs, cells, slots⟩ argsL.toArray) :
    (∃ (v : Option Value) (vm₁ : Vm) (B : Pt), s.WarmedH vm₁ ∧ Stand p l e R s m args below meth c B.U B.locs B.cells B.slots ∧ Post ⟨T.setVm vm₁, locs, cells, slots⟩ argsL.toArray v B ∧
      ∀ target, Steps p.tables e below (B.U.setTop { g with pc := g.pc + 3, stack := v.toList ++ rest }) target → Steps p.tables e below (T.setTop g) target) ∨
    (∃ (q : Addr) (vm₁ : Vm) (B : Pt), s.WarmedH vm₁ ∧ Stand p l e R s m args below meth c B.U B.locs B.cells B.slots ∧ PostX ⟨T.setVm vm₁, locs, cells, slots⟩ argsL.toArray q B ∧
      Steps p.tables e below (T.setTop g) ((B.U.setTop { g with stack := rest }).pushFrame (.throwing q))) := by
  obtain ⟨mk, hnamed⟩ := Cond.code_named hcode
  obtain ⟨methM, cM, hmethM, -, -, -, -, -, -, hsigM⟩ := Cond.code_spec hnamed hcode
  have hstatic : methM.isStatic = true := Cond.static_spec hnamed hmethM hstat
  obtain ⟨kP, hkP, -⟩ := className_of_methodNamed hnamed
  have hinitP : kP.init = .initialized := Cond.initialized_spec (findClass_of_methodNamed hnamed) hkP hinit
  obtain ⟨vm₁, X₁, hstep₁⟩ := X.invokestatic hexec hown hlink hnamed hmethM hstatic hkP hinitP hy (g := g) hg (argsL := argsL) (rest := rest) (hlen _ hsigM) hstack hdg
  rcases hK m meth c ⟨T.setVm vm₁, locs, cells, slots⟩ { g with stack := rest } (.invokestatic index) mk argsL.toArray X₁ hg hsize hdg hW (X₁.named hnamed) (hpre vm₁ X₁.warmed) with ⟨v, B, X', hpost, hsteps⟩ | ⟨q, B, X', hpost, hsteps⟩
  · exact Or.inl ⟨v, vm₁, B, X₁.warmed, X', hpost, fun target h => hstep₁ _ fun acts => by rw [doInvoke_state]; exact hsteps.trans h⟩
  · exact Or.inr ⟨q, vm₁, B, X₁.warmed, X', hpost, hstep₁ _ fun acts => by rw [doInvoke_state]; exact hsteps⟩
end Calls
theorem vx_cls {s : State} {T : State} {vm₁ : Vm} {E : String} {k : ClassId} (hW : s.WarmedH vm₁) (h : (T.setVm vm₁).vm.findClass E = some k) : s.vm.findClass E = some k := by
  have h1 : vm₁.findClass E = some k := h
  rw [hW.alike.findClass] at h1
  exact h1
/-- the method's frame g, with q thrown over it -/
def vx_W (p : Program) (l : Launch) (e : Env) (R : Room) (s : State) (m : MethodId) (args : Array Value) (below : List Frame) (meth : Method) (c : Code) (H : Heap) (locs : List Loc) (cells slots : Nat) (Q : State → Prop) (g : JFrame) (q : Addr) : Prop :=
  ∀ T : State, T.heap = H → Stand p l e R s m args below meth c T locs cells slots → ∃ t, Steps p.tables e below ((T.setTop g).pushFrame (.throwing q)) t ∧ Q t
def vx_Run (p : Program) (l : Launch) (e : Env) (R : Room) (s : State) (m : MethodId) (args : Array Value) (below : List Frame) (meth : Method) (c : Code) (H : Heap) (locs : List Loc) (cells slots mc ms : Nat) (g : JFrame) (rest : List Value) (Qa : State → Outcome → State → Prop) (XC : String → State → State → Prop) (free : Addr → Prop) : Prop :=
  ∀ T : State, T.heap = H → Stand p l e R s m args below meth c T locs cells slots →
    (∃ (v : Option Value) (st₀ t T' : State) (L : List Loc), st₀.heap = H ∧ Stand p l e R s m args below meth c T' (locs ++ L) (cells + mc) (slots + ms) ∧ (∀ q ∈ L, free q.base) ∧ T'.heap = t.heap ∧ T'.vm = t.vm ∧ Qa st₀ (.returned v) t ∧
      Goes p e below T g T' { g with pc := g.pc + 3, stack := v.toList ++ rest }) ∨
    (∃ (q : Addr) (st₀ t T' : State) (L : List Loc) (E : String) (ce : Cell), st₀.heap = H ∧ Stand p l e R s m args below meth c T' (locs ++ L) (cells + mc) (slots + ms) ∧ (∀ z ∈ L, free z.base) ∧ T'.heap = t.heap ∧ T'.vm = t.vm ∧ XC E st₀ t ∧ t.heap[q]? = some ce ∧ ce.vm = .none ∧ s.vm.findClass E = some ce.cls ∧
      Steps p.tables e below (T.setTop g) ((T'.setTop { g with stack := rest }).pushFrame (.throwing q)))
def vx_X {S : Type} (px : S → Prop) (B : String → S → State → Prop) (A : Nat → Prop) : String → State → State → Prop := fun E st t => ∃ u : S, px u ∧ B E u t ∧ va_F A st t
section Runs
variable {p : Program} {l : Launch} {e : Env} {R : Room} {s : State} {m : MethodId} {args : Array Value} {below : List Frame} {meth : Method} {c : Code} {H : Heap} {locs : List Loc} {cells slots : Nat}
variable {y : MethodName} {bytes cc : ByteArray} {maxL nL mc ms n index : Nat} {ret : Option FieldType} {ws : List Cond} {rm : Room} {Pc : Array Value → State → Prop} {Qc : Array Value → State → Outcome → State → Prop} {XC : String → State → State → Prop} {free : Addr → Prop} {Ts : List Cond} {own C : String} {b : Addr} {As rest : List Value} {g : JFrame}
theorem vx_callBack (cb : CallB R s args own index y bytes maxL ret ws rm mc ms n) (hM : vx_Met l y ws rm Pc Qc XC mc ms free) (hbl : FrameBlind Pc) : vx_Back l R p e below s args y 3 8 (PreOf R mc ms Pc) (PostOf Qc mc ms free) (vx_Post XC mc ms free) := by
  obtain ⟨hrc, hrs, hfr, hlo, hws, hcw, -, hini, -⟩ := cb
  exact vx_back (bytes := bytes) (maxL := maxL) (ret := ret) hM hbl hrc hrs hfr hlo hws hcw (fun a' U hW => word_at hW (Or.inl (by first | rfl | simp [Cond.onTables, Cond.keeps, Cond.steady])) hini)
theorem vx_runV (S : CallFix p m c cc nL s args Ts own) (hM : vx_Met l y ws rm Pc Qc XC mc ms free) (cw : CallW R s args own C index y bytes maxL ret ws rm mc ms n) (hp : PreV s H C b Pc As)
    (hg : g.method = m) (hn : As.length = n) (hsize : g.locals.size = nL) (hstack : g.stack = As.reverse ++ .ref b :: rest) (hW : 2 * g.monitorRoom + (rest.map fun v => v.category).sum ≤ 8) (hdg : decode cc g.pc = .ok (.invokevirtual index, 3)) (hf : cells + mc ≤ R.cells ∧ slots + ms ≤ R.slots) :
    vx_Run p l e R s m args below meth c H locs cells slots mc ms g rest (Qc (Value.ref b :: As).toArray) XC free := by
  have hK : vx_Back l R p e below s args y 3 8 (PreOf R mc ms Pc) (PostOf Qc mc ms free) (vx_Post XC mc ms free) := vx_callBack cw.1 hM hp.1
  obtain ⟨⟨-, -, -, -, -, -, hcode, -, hy, hlen, hl⟩, hin, hse⟩ := cw
  obtain ⟨hx, hb, hml, ho, -⟩ := S
  obtain ⟨-, ⟨cellB, hcB, hoB, hclB⟩, hPc⟩ := hp
  intro T hT X
  rcases vx_callV X hx (C := C) (bytes := bytes) (maxL := maxL) (ret := ret) ho hl hin hse hcode hy hK (by rw [hT]; exact hcB) hoB hclB hg (hsize.trans hml.symm) (argsL := As) (rest := rest) (fun sig h => hn.trans (hlen sig h)) hstack hW (by rw [hb]; exact hdg)
    (fun vm₁ hW₁ => ⟨hf.1, hf.2, hPc (T.setVm vm₁) hT hW₁⟩) with ⟨v, vm₁, ⟨U', l2, c2, s2⟩, hW₁, X', ⟨g', mk, t, L, e1, e2, hq, h1, hL, h2, h3⟩, st⟩ | ⟨q, vm₁, ⟨U', l2, c2, s2⟩, hW₁, X', ⟨g', mk, t, L, E, ce, e1, e2, hq, hce, hcv, hcl, h1, hL, h2, h3⟩, st⟩
  · dsimp only [Pt.U, Pt.locs, Pt.cells, Pt.slots] at X' e1 e2 h1 h2 h3 st
    subst h1; subst h2; subst h3
    exact Or.inl ⟨v, (T.setVm vm₁).calling g' mk (Value.ref b :: As).toArray, t, U', L, hT, X', hL, e1, e2, hq, st⟩
  · dsimp only [Pt.U, Pt.locs, Pt.cells, Pt.slots] at X' e1 e2 h1 h2 h3 st hcl
    subst h1; subst h2; subst h3
    exact Or.inr ⟨q, (T.setVm vm₁).calling g' mk (Value.ref b :: As).toArray, t, U', L, E, ce, hT, X', hL, e1, e2, hq, hce, hcv, vx_cls hW₁ hcl, st⟩
theorem vx_runS (S : CallFix p m c cc nL s args Ts own) (hM : vx_Met l y ws rm Pc Qc XC mc ms free) (cw : CallB R s args own index y bytes maxL ret ws rm mc ms n ∧ (Cond.static y).before args s = true) (hp : PreS s H Pc As)
    (hg : g.method = m) (hn : As.length = n) (hsize : g.locals.size = nL) (hstack : g.stack = As.reverse ++ rest) (hW : 2 * g.monitorRoom + (rest.map fun v => v.category).sum ≤ 8) (hdg : decode cc g.pc = .ok (.invokestatic index, 3)) (hf : cells + mc ≤ R.cells ∧ slots + ms ≤ R.slots) :
    vx_Run p l e R s m args below meth c H locs cells slots mc ms g rest (Qc As.toArray) XC free := by
  have hK : vx_Back l R p e below s args y 3 8 (PreOf R mc ms Pc) (PostOf Qc mc ms free) (vx_Post XC mc ms free) := vx_callBack cw.1 hM hp.1
  obtain ⟨⟨-, -, -, -, -, -, hcode, hini, hy, hlen, hl⟩, hstt⟩ := cw
  obtain ⟨hx, hb, hml, ho, -⟩ := S
  intro T hT X
  rcases vx_callS X hx (bytes := bytes) (maxL := maxL) (ret := ret) ho hl hstt hini hcode hy hK hg (hsize.trans hml.symm) (argsL := As) (rest := rest) (fun sig h => hn.trans (hlen sig h)) hstack hW (by rw [hb]; exact hdg)
    (fun vm₁ hW₁ => ⟨hf.1, hf.2, hp.2 (T.setVm vm₁) hT hW₁⟩) with ⟨v, vm₁, ⟨U', l2, c2, s2⟩, hW₁, X', ⟨g', mk, t, L, e1, e2, hq, h1, hL, h2, h3⟩, st⟩ | ⟨q, vm₁, ⟨U', l2, c2, s2⟩, hW₁, X', ⟨g', mk, t, L, E, ce, e1, e2, hq, hce, hcv, hcl, h1, hL, h2, h3⟩, st⟩
  · dsimp only [Pt.U, Pt.locs, Pt.cells, Pt.slots] at X' e1 e2 h1 h2 h3 st
    subst h1; subst h2; subst h3
    exact Or.inl ⟨v, (T.setVm vm₁).calling g' mk As.toArray, t, U', L, hT, X', hL, e1, e2, hq, st⟩
  · dsimp only [Pt.U, Pt.locs, Pt.cells, Pt.slots] at X' e1 e2 h1 h2 h3 st hcl
    subst h1; subst h2; subst h3
    exact Or.inr ⟨q, (T.setVm vm₁).calling g' mk As.toArray, t, U', L, E, ce, hT, X', hL, e1, e2, hq, hce, hcv, vx_cls hW₁ hcl, st⟩
end Runs
section Rows
variable {p : Program} {l : Launch} {e : Env} {R : Room} {s : State} {m : MethodId} {args : Array Value} {below : List Frame} {meth : Method} {c : Code} {H : Heap} {locs : List Loc} {cells slots : Nat} {Q : State → Prop}
variable {mc ms : Nat} {free : Addr → Prop} {A0 A1 : Nat → Prop} {H0 : Heap} {a : Array Value} {pc : Nat} {ls : Array Slot} {st0 rest : List Value}
theorem vx_keep {st₀ t T' : State} {L : List Loc} (h0 : st₀.heap = H) (e1 : T'.heap = t.heap) (hS : va_S A0 H0 H locs) (hA : ∀ q, q < H.size → A1 q → A0 q) (hf : ∀ q, free q → A0 q) (hL : ∀ q ∈ L, free q.base) (hF : va_F A1 st₀ t) :
    H.size ≤ T'.heap.size ∧ (∀ q : Nat, q < H.size → ¬ A1 q → T'.heap[q]? = H[q]?) ∧ va_S A0 H0 T'.heap (locs ++ L) := by
  obtain ⟨hz, hk⟩ := hF
  rw [h0] at hz hk
  exact ⟨by rw [e1]; exact hz, fun q h1 h2 => by rw [e1]; exact hk q h1 h2,
    ⟨Nat.le_trans hS.1 (by rw [e1]; exact hz), fun q h1 h2 => by rw [e1, hk q (Nat.lt_of_lt_of_le h1 hS.1) (fun z => h2 (hA q (Nat.lt_of_lt_of_le h1 hS.1) z))]; exact hS.2.1 q h1 h2, fun q hq => by
      rcases List.mem_append.mp hq with h | h
      · exact hS.2.2 q h
      · exact hf _ (hL q h)⟩⟩
theorem vx_calli {S SX : Type} {post : Int32 → S → Prop} {px : SX → Prop} {B : S → State → Prop} {BX : String → SX → State → Prop} {AX : Nat → Prop} (hr : vx_Run p l e R s m args below meth c H locs cells slots mc ms (F0 m pc ls st0) rest (va_Qi post B A1 a) (vx_X px BX AX) free) (hS : va_S A0 H0 H locs) (hA : ∀ q, q < H.size → A1 q → A0 q) (hf : ∀ q, free q → A0 q) (hAX : ∀ q, q < H.size → AX q → A0 q)
    (kx : ∀ (E : String) (ce : Cell) (q9 : Addr) (u : SX) (t : State) (H1 : Heap) (locs1 : List Loc), t.heap = H1 → s.vm.Alike t.vm → px u → BX E u t → H.size ≤ H1.size → (∀ q : Nat, q < H.size → ¬ AX q → H1[q]? = H[q]?) → va_S A0 H0 H1 locs1 → H1[q9]? = some ce → ce.vm = .none → s.vm.findClass E = some ce.cls → vx_W p l e R s m args below meth c H1 locs1 (cells + mc) (slots + ms) Q (F0 m pc ls rest) q9)
    (kk : ∀ (r : Int32) (u : S) (t : State) (H1 : Heap) (locs1 : List Loc), t.heap = H1 → s.vm.Alike t.vm → post r u → B u t → H.size ≤ H1.size → (∀ q : Nat, q < H.size → ¬ A1 q → H1[q]? = H[q]?) → va_S A0 H0 H1 locs1 → W p l e R s m args below meth c H1 locs1 (cells + mc) (slots + ms) Q (F0 m (pc + 3) ls (.int r :: rest))) : W p l e R s m args below meth c H locs cells slots Q (F0 m pc ls st0) := by
  intro T hT X
  rcases hr T hT X with ⟨v, st₀, t, T', L, h0, X', hL, e1, e2, ⟨⟨r, u, hv, hp, hb⟩, hF⟩, st⟩ | ⟨q, st₀, t, T', L, E, ce, h0, X', hL, e1, e2, ⟨u, hp, hb, hF⟩, hce, hcv, hcl, st⟩
  · cases hv
    obtain ⟨k1, k2, k3⟩ := vx_keep h0 e1 hS hA hf hL hF
    obtain ⟨t2, a1, b1⟩ := kk r u t T'.heap (locs ++ L) e1.symm (by rw [← e2]; exact X'.warmed.alike) hp hb k1 k2 k3 T' rfl X'
    exact ⟨t2, st t2 a1, b1⟩
  · obtain ⟨k1, k2, k3⟩ := vx_keep h0 e1 hS hAX hf hL hF
    obtain ⟨t2, a1, b1⟩ := kx E ce q u t T'.heap (locs ++ L) e1.symm (by rw [← e2]; exact X'.warmed.alike) hp hb k1 k2 k3 (by rw [e1]; exact hce) hcv hcl T' rfl X'
    exact ⟨t2, st.trans a1, b1⟩
theorem vx_calll {S SX : Type} {post : Int64 → S → Prop} {px : SX → Prop} {B : S → State → Prop} {BX : String → SX → State → Prop} {AX : Nat → Prop} (hr : vx_Run p l e R s m args below meth c H locs cells slots mc ms (F0 m pc ls st0) rest (va_Ql post B A1 a) (vx_X px BX AX) free) (hS : va_S A0 H0 H locs) (hA : ∀ q, q < H.size → A1 q → A0 q) (hf : ∀ q, free q → A0 q) (hAX : ∀ q, q < H.size → AX q → A0 q)
    (kx : ∀ (E : String) (ce : Cell) (q9 : Addr) (u : SX) (t : State) (H1 : Heap) (locs1 : List Loc), t.heap = H1 → s.vm.Alike t.vm → px u → BX E u t → H.size ≤ H1.size → (∀ q : Nat, q < H.size → ¬ AX q → H1[q]? = H[q]?) → va_S A0 H0 H1 locs1 → H1[q9]? = some ce → ce.vm = .none → s.vm.findClass E = some ce.cls → vx_W p l e R s m args below meth c H1 locs1 (cells + mc) (slots + ms) Q (F0 m pc ls rest) q9)
    (kk : ∀ (r : Int64) (u : S) (t : State) (H1 : Heap) (locs1 : List Loc), t.heap = H1 → s.vm.Alike t.vm → post r u → B u t → H.size ≤ H1.size → (∀ q : Nat, q < H.size → ¬ A1 q → H1[q]? = H[q]?) → va_S A0 H0 H1 locs1 → W p l e R s m args below meth c H1 locs1 (cells + mc) (slots + ms) Q (F0 m (pc + 3) ls (.long r :: rest))) : W p l e R s m args below meth c H locs cells slots Q (F0 m pc ls st0) := by
  intro T hT X
  rcases hr T hT X with ⟨v, st₀, t, T', L, h0, X', hL, e1, e2, ⟨⟨r, u, hv, hp, hb⟩, hF⟩, st⟩ | ⟨q, st₀, t, T', L, E, ce, h0, X', hL, e1, e2, ⟨u, hp, hb, hF⟩, hce, hcv, hcl, st⟩
  · cases hv
    obtain ⟨k1, k2, k3⟩ := vx_keep h0 e1 hS hA hf hL hF
    obtain ⟨t2, a1, b1⟩ := kk r u t T'.heap (locs ++ L) e1.symm (by rw [← e2]; exact X'.warmed.alike) hp hb k1 k2 k3 T' rfl X'
    exact ⟨t2, st t2 a1, b1⟩
  · obtain ⟨k1, k2, k3⟩ := vx_keep h0 e1 hS hAX hf hL hF
    obtain ⟨t2, a1, b1⟩ := kx E ce q u t T'.heap (locs ++ L) e1.symm (by rw [← e2]; exact X'.warmed.alike) hp hb k1 k2 k3 (by rw [e1]; exact hce) hcv hcl T' rfl X'
    exact ⟨t2, st.trans a1, b1⟩
theorem vx_callf {S SX : Type} {post : UInt32 → S → Prop} {px : SX → Prop} {B : S → State → Prop} {BX : String → SX → State → Prop} {AX : Nat → Prop} (hr : vx_Run p l e R s m args below meth c H locs cells slots mc ms (F0 m pc ls st0) rest (va_Qf post B A1 a) (vx_X px BX AX) free) (hS : va_S A0 H0 H locs) (hA : ∀ q, q < H.size → A1 q → A0 q) (hf : ∀ q, free q → A0 q) (hAX : ∀ q, q < H.size → AX q → A0 q)
    (kx : ∀ (E : String) (ce : Cell) (q9 : Addr) (u : SX) (t : State) (H1 : Heap) (locs1 : List Loc), t.heap = H1 → s.vm.Alike t.vm → px u → BX E u t → H.size ≤ H1.size → (∀ q : Nat, q < H.size → ¬ AX q → H1[q]? = H[q]?) → va_S A0 H0 H1 locs1 → H1[q9]? = some ce → ce.vm = .none → s.vm.findClass E = some ce.cls → vx_W p l e R s m args below meth c H1 locs1 (cells + mc) (slots + ms) Q (F0 m pc ls rest) q9)
    (kk : ∀ (r : UInt32) (u : S) (t : State) (H1 : Heap) (locs1 : List Loc), t.heap = H1 → s.vm.Alike t.vm → post r u → B u t → H.size ≤ H1.size → (∀ q : Nat, q < H.size → ¬ A1 q → H1[q]? = H[q]?) → va_S A0 H0 H1 locs1 → W p l e R s m args below meth c H1 locs1 (cells + mc) (slots + ms) Q (F0 m (pc + 3) ls (.float r :: rest))) : W p l e R s m args below meth c H locs cells slots Q (F0 m pc ls st0) := by
  intro T hT X
  rcases hr T hT X with ⟨v, st₀, t, T', L, h0, X', hL, e1, e2, ⟨⟨r, u, hv, hp, hb⟩, hF⟩, st⟩ | ⟨q, st₀, t, T', L, E, ce, h0, X', hL, e1, e2, ⟨u, hp, hb, hF⟩, hce, hcv, hcl, st⟩
  · cases hv
    obtain ⟨k1, k2, k3⟩ := vx_keep h0 e1 hS hA hf hL hF
    obtain ⟨t2, a1, b1⟩ := kk r u t T'.heap (locs ++ L) e1.symm (by rw [← e2]; exact X'.warmed.alike) hp hb k1 k2 k3 T' rfl X'
    exact ⟨t2, st t2 a1, b1⟩
  · obtain ⟨k1, k2, k3⟩ := vx_keep h0 e1 hS hAX hf hL hF
    obtain ⟨t2, a1, b1⟩ := kx E ce q u t T'.heap (locs ++ L) e1.symm (by rw [← e2]; exact X'.warmed.alike) hp hb k1 k2 k3 (by rw [e1]; exact hce) hcv hcl T' rfl X'
    exact ⟨t2, st.trans a1, b1⟩
theorem vx_calld {S SX : Type} {post : UInt64 → S → Prop} {px : SX → Prop} {B : S → State → Prop} {BX : String → SX → State → Prop} {AX : Nat → Prop} (hr : vx_Run p l e R s m args below meth c H locs cells slots mc ms (F0 m pc ls st0) rest (va_Qd post B A1 a) (vx_X px BX AX) free) (hS : va_S A0 H0 H locs) (hA : ∀ q, q < H.size → A1 q → A0 q) (hf : ∀ q, free q → A0 q) (hAX : ∀ q, q < H.size → AX q → A0 q)
    (kx : ∀ (E : String) (ce : Cell) (q9 : Addr) (u : SX) (t : State) (H1 : Heap) (locs1 : List Loc), t.heap = H1 → s.vm.Alike t.vm → px u → BX E u t → H.size ≤ H1.size → (∀ q : Nat, q < H.size → ¬ AX q → H1[q]? = H[q]?) → va_S A0 H0 H1 locs1 → H1[q9]? = some ce → ce.vm = .none → s.vm.findClass E = some ce.cls → vx_W p l e R s m args below meth c H1 locs1 (cells + mc) (slots + ms) Q (F0 m pc ls rest) q9)
    (kk : ∀ (r : UInt64) (u : S) (t : State) (H1 : Heap) (locs1 : List Loc), t.heap = H1 → s.vm.Alike t.vm → post r u → B u t → H.size ≤ H1.size → (∀ q : Nat, q < H.size → ¬ A1 q → H1[q]? = H[q]?) → va_S A0 H0 H1 locs1 → W p l e R s m args below meth c H1 locs1 (cells + mc) (slots + ms) Q (F0 m (pc + 3) ls (.double r :: rest))) : W p l e R s m args below meth c H locs cells slots Q (F0 m pc ls st0) := by
  intro T hT X
  rcases hr T hT X with ⟨v, st₀, t, T', L, h0, X', hL, e1, e2, ⟨⟨r, u, hv, hp, hb⟩, hF⟩, st⟩ | ⟨q, st₀, t, T', L, E, ce, h0, X', hL, e1, e2, ⟨u, hp, hb, hF⟩, hce, hcv, hcl, st⟩
  · cases hv
    obtain ⟨k1, k2, k3⟩ := vx_keep h0 e1 hS hA hf hL hF
    obtain ⟨t2, a1, b1⟩ := kk r u t T'.heap (locs ++ L) e1.symm (by rw [← e2]; exact X'.warmed.alike) hp hb k1 k2 k3 T' rfl X'
    exact ⟨t2, st t2 a1, b1⟩
  · obtain ⟨k1, k2, k3⟩ := vx_keep h0 e1 hS hAX hf hL hF
    obtain ⟨t2, a1, b1⟩ := kx E ce q u t T'.heap (locs ++ L) e1.symm (by rw [← e2]; exact X'.warmed.alike) hp hb k1 k2 k3 (by rw [e1]; exact hce) hcv hcl T' rfl X'
    exact ⟨t2, st.trans a1, b1⟩
theorem vx_callv {S SX : Type} {post : S → Prop} {px : SX → Prop} {B : S → State → Prop} {BX : String → SX → State → Prop} {AX : Nat → Prop} (hr : vx_Run p l e R s m args below meth c H locs cells slots mc ms (F0 m pc ls st0) rest (va_Qv post B A1 a) (vx_X px BX AX) free) (hS : va_S A0 H0 H locs) (hA : ∀ q, q < H.size → A1 q → A0 q) (hf : ∀ q, free q → A0 q) (hAX : ∀ q, q < H.size → AX q → A0 q)
    (kx : ∀ (E : String) (ce : Cell) (q9 : Addr) (u : SX) (t : State) (H1 : Heap) (locs1 : List Loc), t.heap = H1 → s.vm.Alike t.vm → px u → BX E u t → H.size ≤ H1.size → (∀ q : Nat, q < H.size → ¬ AX q → H1[q]? = H[q]?) → va_S A0 H0 H1 locs1 → H1[q9]? = some ce → ce.vm = .none → s.vm.findClass E = some ce.cls → vx_W p l e R s m args below meth c H1 locs1 (cells + mc) (slots + ms) Q (F0 m pc ls rest) q9)
    (kk : ∀ (u : S) (t : State) (H1 : Heap) (locs1 : List Loc), t.heap = H1 → s.vm.Alike t.vm → post u → B u t → H.size ≤ H1.size → (∀ q : Nat, q < H.size → ¬ A1 q → H1[q]? = H[q]?) → va_S A0 H0 H1 locs1 → W p l e R s m args below meth c H1 locs1 (cells + mc) (slots + ms) Q (F0 m (pc + 3) ls (rest))) : W p l e R s m args below meth c H locs cells slots Q (F0 m pc ls st0) := by
  intro T hT X
  rcases hr T hT X with ⟨v, st₀, t, T', L, h0, X', hL, e1, e2, ⟨⟨u, hv, hp, hb⟩, hF⟩, st⟩ | ⟨q, st₀, t, T', L, E, ce, h0, X', hL, e1, e2, ⟨u, hp, hb, hF⟩, hce, hcv, hcl, st⟩
  · cases hv
    obtain ⟨k1, k2, k3⟩ := vx_keep h0 e1 hS hA hf hL hF
    obtain ⟨t2, a1, b1⟩ := kk u t T'.heap (locs ++ L) e1.symm (by rw [← e2]; exact X'.warmed.alike) hp hb k1 k2 k3 T' rfl X'
    exact ⟨t2, st t2 a1, b1⟩
  · obtain ⟨k1, k2, k3⟩ := vx_keep h0 e1 hS hAX hf hL hF
    obtain ⟨t2, a1, b1⟩ := kx E ce q u t T'.heap (locs ++ L) e1.symm (by rw [← e2]; exact X'.warmed.alike) hp hb k1 k2 k3 (by rw [e1]; exact hce) hcv hcl T' rfl X'
    exact ⟨t2, st.trans a1, b1⟩
/-- caught by the row x of this method's table; the rows ahead don't take it -/
theorem vx_catch {own name : String} {E : String} {ce : Cell} {q : Addr} (hown : s.vm.findClass own = some m.cls) (pre : List ExceptionTableEntry) (x : ExceptionTableEntry) (suf : List ExceptionTableEntry) (hsplit : c.exceptionTable.toList = pre ++ x :: suf)
    (hpass : ∀ z ∈ pre, covers z pc = false ∨ (z.catchType ≠ 0 ∧ ∃ nm : String, (Cond.classLink own z.catchType nm).before args s = true ∧ va_Nc E nm s)) (hx : covers x pc = true) (h0 : x.catchType ≠ 0)
    (hlink : (Cond.classLink own x.catchType name).before args s = true) (hcast : (Cond.castable E name).before args s = true) (hcell : H[q]? = some ce) (hv : ce.vm = .none) (hcl : s.vm.findClass E = some ce.cls)
    (kk : W p l e R s m args below meth c H locs cells slots Q (F0 m x.handlerPc ls [.ref q])) : vx_W p l e R s m args below meth c H locs cells slots Q (F0 m pc ls rest) q := by
  intro T hT X
  have hpl : e.platform.magicAccessors = ({} : Platform).magicAccessors := by rw [X.admits.platform]
  obtain ⟨c3, c4, hc3, hc4, hasg⟩ := Cond.castable_spec hcast
  cases Option.some.inj (hc3.symm.trans hcl)
  obtain ⟨c5, hc5, hcl5⟩ := Cond.classLink_spec hown hlink e.platform hpl
  cases Option.some.inj (hc4.symm.trans hc5)
  obtain ⟨vm', X', st⟩ := X.thenCaughtThrough q (g := F0 m pc ls rest) rfl (Steps.refl _) (by rw [hT]; exact hcell) (by rw [hv]; rfl) (by obtain ⟨k9, h9, -⟩ := Vm.findClass_spec hcl; exact ⟨k9, h9⟩) pre x suf hsplit
    (fun z hz => by
      rcases hpass z hz with h | ⟨hz0, nm, hl1, hn1⟩
      · exact Or.inl h
      · obtain ⟨c6, hc6, hcl6⟩ := Cond.classLink_spec hown hl1 e.platform hpl
        obtain ⟨a8, b8, h1, h2, h3⟩ := hn1
        cases Option.some.inj (h1.symm.trans hcl)
        cases Option.some.inj (h2.symm.trans hc6)
        exact Or.inr ⟨hz0, _, hcl6, h3⟩) hx (Or.inr ⟨h0, c4, hcl5, hasg⟩)
  obtain ⟨t, a1, b1⟩ := kk (T.setVm vm') hT X'
  exact ⟨t, st.trans a1, b1⟩
end Rows
section Ends
variable {p : Program} {l : Launch} {e : Env} {R : Room} {s : State} {m : MethodId} {args : Array Value} {below : List Frame} {meth : Method} {c : Code} {H : Heap} {locs : List Loc} {cells slots : Nat} {Q : State → Prop}
variable {mc ms : Nat} {free : Addr → Prop} {A0 A1 : Nat → Prop} {H0 : Heap} {a : Array Value} {ls : Array Slot} {st0 rest : List Value}
variable {Qc : Array Value → State → Outcome → State → Prop} {XC : String → State → State → Prop}
/-- what a body that may throw owes at its end -/
def vx_MQ (below : List Frame) (Qc : Array Value → State → Outcome → State → Prop) (XC : String → State → State → Prop) (a : Array Value) (s : State) (mc ms : Nat) (free : Addr → Prop) : State → Prop := fun t =>
  ∃ o, t.status = .running ∧ Ended t below o ∧ vx_Q Qc XC mc ms free a s o t
theorem vx_ret {g : JFrame} {mc ms : Nat} (k : W p l e R s m args below meth c H locs cells slots (MQ below Qc args s mc ms free) g) : W p l e R s m args below meth c H locs cells slots (vx_MQ below Qc XC args s mc ms free) g := by
  intro T hT X
  obtain ⟨t, a1, o, b1, b2, b3, b4⟩ := k T hT X
  exact ⟨t, a1, o, b1, b2, Or.inl ⟨b3, b4⟩⟩
/-- not caught here: it goes on to the caller -/
theorem vx_widen {g : JFrame} {q : Addr} {k n : Nat} (h1 : cells ≤ k) (h2 : slots ≤ n) (kk : vx_W p l e R s m args below meth c H locs k n Q g q) : vx_W p l e R s m args below meth c H locs cells slots Q g q := fun T hT X => kk T hT (stand_widen X h1 h2)
theorem vx_out {pc : Nat} {E : String} {ce : Cell} {q : Addr} {mc ms : Nat} (hout : ∀ x ∈ c.exceptionTable.toList, covers x pc = false) (hlocks : meth.locks = false) (hcell : H[q]? = some ce) (hv : ce.vm = .none) (hcl : s.vm.findClass E = some ce.cls)
    (hx : ∀ t : State, t.heap = H → s.vm.Alike t.vm → XC E s t) (hf : ∀ z ∈ locs, free z.base) (hc : cells ≤ mc) (hs : slots ≤ ms) :
    vx_W p l e R s m args below meth c H locs cells slots (vx_MQ below Qc XC args s mc ms free) (F0 m pc ls rest) q := by
  intro T hT X
  obtain ⟨st1, hrun, hend, hW, hsm⟩ := X.leaveThrown q (g := F0 m pc ls rest) rfl rfl rfl hout hlocks
  have hcell9 : (T.setFrames (.throwing q :: below)).heap[q]? = some ce := by
    show T.heap[q]? = some ce
    rw [hT]; exact hcell
  exact ⟨_, st1, .threw q, hrun, hend, Or.inr ⟨q, rfl, E, ce, locs, hx _ hT hW.alike, hcell9, hv, hcl, hW, hsm.mono hc hs, hf⟩⟩
theorem vx_frame {U : State} {k n : Nat} (h : s.sameButNew ({ U with vm := s.vm } : State) locs k n) : s.heap.size ≤ U.heap.size ∧ ∀ q : Nat, q < s.heap.size → (∀ z ∈ locs, z.base ≠ q) → U.heap[q]? = s.heap[q]? := by
  obtain ⟨-, h2, -, -, -, h6⟩ := h
  refine ⟨h2, fun q hq hz => ?_⟩
  obtain ⟨c9, e1, e2, e3, e4⟩ := h6 q _ (Array.getElem?_eq_getElem hq)
  have hs : c9.slots = (s.heap[q]).slots := Array.ext_getElem? fun i => e4 i fun hm => hz _ hm rfl
  have h9 : c9 = s.heap[q] := by
    rw [hs] at e2
    exact e2
  have e5 : U.heap[q]? = some c9 := e1
  rw [e5, h9, Array.getElem?_eq_getElem hq]
/-- the words of a throw but the four that speak of the heap -/
def vx_no (w : Cond) : Bool := decide (w ≠ .isRef (.static Bundle.tN "UNASSIGNED_STACK" Bundle.steD)) && decide (w ≠ .isRef (.static Bundle.tN "SUPPRESSED_SENTINEL" Bundle.listD)) && decide (w ≠ .laysStatic Bundle.tN "UNASSIGNED_STACK" Bundle.steD) && decide (w ≠ .laysStatic Bundle.tN "SUPPRESSED_SENTINEL" Bundle.listD)
def vx_at0 (own : String) (ic : Nat) (X : String) (names : List String) : List Cond := (Bundle.ownAtoms0 own ic X names).filter vx_no
def vx_atS (own : String) (ic : Nat) (X : String) (names : List String) : List Cond := (Bundle.ownAtoms own ic X names).filter vx_no
/-- a word that the tables alone decide, or a good one -/
def vx_ot (w : Cond) : Bool := w.onTables || goodWord w
theorem vx_ot_at {args a' : Array Value} {s U : State} {w : Cond} (hW : s.WarmedH U.vm) (hvm : s.vm = U.vm) (hg : vx_ot w = true) (h : w.before args s = true) : w.before a' U = true := by
  simp only [vx_ot, Bool.or_eq_true] at hg
  rcases hg with hg | hg
  · exact va_tabs hg hvm h
  · exact word_at hW (good_of_word hg) h
/-- a list's words: the good ones out of the method's own list, the others by premises of their own -/
theorem vx_hat {args : Array Value} {s : State} {L B : List Cond} (h1 : ∀ w ∈ L.filter goodWord, w.before args s = true) (h2 : ∀ w ∈ L.filter (fun w => !goodWord w), w ∈ B) (h3 : ∀ w ∈ B, w.before args s = true) : ∀ w ∈ L, w.before args s = true := by
  intro w hw
  by_cases g : goodWord w = true
  · exact h1 w (List.mem_filter.mpr ⟨hw, g⟩)
  · refine h3 w (h2 w (List.mem_filter.mpr ⟨hw, ?_⟩))
    show (!goodWord w) = true
    cases hgw : goodWord w
    · rfl
    · exact absurd hgw g
theorem vx_c {args : Array Value} {s : State} {w : Cond} {B : List Cond} (h : w.before args s = true) (t : ∀ w ∈ B, w.before args s = true) : ∀ w' ∈ w :: B, w'.before args s = true := fun w' h' => (List.mem_cons.mp h').elim (fun e => by rw [e]; exact h) (t w')
theorem vx_n {args : Array Value} {s : State} : ∀ w ∈ ([] : List Cond), w.before args s = true := fun _ h => nomatch h
theorem vx_own {args : Array Value} {s : State} {L : List Cond} (h1 : ∀ w ∈ L.filter vx_no, w.before args s = true)
    (hU : (Cond.isRef (.static Bundle.tN "UNASSIGNED_STACK" Bundle.steD)).before args s = true) (hN : (Cond.isRef (.static Bundle.tN "SUPPRESSED_SENTINEL" Bundle.listD)).before args s = true)
    (lU : (Cond.laysStatic Bundle.tN "UNASSIGNED_STACK" Bundle.steD).before args s = true) (lN : (Cond.laysStatic Bundle.tN "SUPPRESSED_SENTINEL" Bundle.listD).before args s = true) : ∀ w ∈ L, w.before args s = true := by
  intro w hw
  by_cases e1 : w = .isRef (.static Bundle.tN "UNASSIGNED_STACK" Bundle.steD)
  · rw [e1]; exact hU
  · by_cases e2 : w = .isRef (.static Bundle.tN "SUPPRESSED_SENTINEL" Bundle.listD)
    · rw [e2]; exact hN
    · by_cases e3 : w = .laysStatic Bundle.tN "UNASSIGNED_STACK" Bundle.steD
      · rw [e3]; exact lU
      · by_cases e4 : w = .laysStatic Bundle.tN "SUPPRESSED_SENTINEL" Bundle.listD
        · rw [e4]; exact lN
        · exact h1 w (List.mem_filter.mpr ⟨hw, by unfold vx_no; rw [decide_eq_true e1, decide_eq_true e2, decide_eq_true e3, decide_eq_true e4]; rfl⟩)
/-- where a static field lies, its class's statics cell in H -/
def vx_L (C n d : String) (A : Nat → Prop) (U : State) (H : Heap) : Prop := ∃ (c : ClassId) (k : Class) (i : Nat) (f : Field) (a : Nat) (cell : Cell), U.vm.findClass C = some c ∧ U.fieldFound? C n d = some (c, k, i, f) ∧ f.isStatic = true ∧ k.statics = some a ∧ H[a]? = some cell ∧ cell.vm.isStatics = true ∧ cell.cls = c ∧ f.slot < cell.slots.size ∧ k.staticTypes[f.slot]? = some f.type ∧ ¬ A a
theorem vx_L.moved {C n d : String} {A : Nat → Prop} {u U : State} {H : Heap} (hvm : u.vm.Alike U.vm) (h : vx_L C n d A u H) : vx_L C n d A U H := by
  obtain ⟨c, k, i, f, a, cell, h1, h2, h3, h4, h5, h6, h7, h8, h9, h10⟩ := h
  obtain ⟨k', hi', he⟩ := State.fieldFound?_setVm hvm h2
  exact ⟨c, k', i, f, a, cell, by rw [hvm.findClass]; exact h1, hi', h3, by rw [he]; exact h4, h5, h6, h7, h8, by rw [he]; exact h9, h10⟩
theorem vx_L.kept {C n d : String} {A : Nat → Prop} {U : State} {H H1 : Heap} (h : vx_L C n d A U H) (hq : ∀ a : Nat, a < H.size → ¬ A a → H1[a]? = H[a]?) : vx_L C n d A U H1 := by
  obtain ⟨c, k, i, f, a, cell, h1, h2, h3, h4, h5, h6, h7, h8, h9, h10⟩ := h
  exact ⟨c, k, i, f, a, cell, h1, h2, h3, h4, by rw [hq a (Array.getElem?_eq_some_iff.mp h5).1 h10]; exact h5, h6, h7, h8, h9, h10⟩
theorem vx_L.narrow {C n d : String} {A B : Nat → Prop} {U : State} {H : Heap} (h : vx_L C n d A U H) (hAB : ∀ q, B q → A q) : vx_L C n d B U H := by
  obtain ⟨c, k, i, f, a, cell, h1, h2, h3, h4, h5, h6, h7, h8, h9, h10⟩ := h
  exact ⟨c, k, i, f, a, cell, h1, h2, h3, h4, h5, h6, h7, h8, h9, fun z => h10 (hAB _ z)⟩
theorem vx_L.word {C n d : String} {A : Nat → Prop} {s : State} {args : Array Value} (h : vx_L C n d A s s.heap) : (Cond.laysStatic C n d).before args s = true := by
  obtain ⟨c, k, i, f, a, cell, h1, h2, h3, h4, h5, h6, h7, h8, h9, -⟩ := h
  show (Cond.laysStatic C n d).holds args s none s [] = true
  exact Cond.laysStatic_of h1 h2 h3 h4 h5 h6 h7 h8 h9
/-- .. and what it holds: null or some reference -/
def vx_Zq (C n d : String) (A : Nat → Prop) (U : State) (H : Heap) : Prop := va_Zq C n d A U H ∧ vx_L C n d A U H
theorem vx_Zq.moved {C n d : String} {A : Nat → Prop} {u U : State} {H : Heap} (hvm : u.vm.Alike U.vm) (h : vx_Zq C n d A u H) : vx_Zq C n d A U H := ⟨va_Zq.moved hvm h.1, vx_L.moved hvm h.2⟩
theorem vx_Zq.kept {C n d : String} {A : Nat → Prop} {U : State} {H H1 : Heap} (h : vx_Zq C n d A U H) (hq : ∀ a : Nat, a < H.size → ¬ A a → H1[a]? = H[a]?) : vx_Zq C n d A U H1 := ⟨va_Zq.kept h.1 hq, vx_L.kept h.2 hq⟩
theorem vx_Zq.narrow {C n d : String} {A B : Nat → Prop} {U : State} {H : Heap} (h : vx_Zq C n d A U H) (hAB : ∀ q, B q → A q) : vx_Zq C n d B U H := ⟨va_Zq.narrow h.1 hAB, vx_L.narrow h.2 hAB⟩
theorem vx_Zqof {args : Array Value} {s : State} {C n d : String} {A : Nat → Prop} (hl : (Cond.laysStatic C n d).before args s = true) (hini : (Cond.initialized C).before args s = true) (h : (Cond.isRef (.static C n d)).before args s = true) (hA : ∀ a : Nat, a < s.heap.size → ¬ A a) : vx_Zq C n d A s s.heap := by
  refine ⟨va_Zqof hl hini h hA, ?_⟩
  obtain ⟨c, k, i, f, a, cell, h1, h2, h3, h4, h5, h6, h7, h8, h9⟩ := Cond.laysStatic_spec hl
  exact ⟨c, k, i, f, a, cell, h1, h2, h3, h4, h5, h6, h7, h8, h9, hA a (Array.getElem?_eq_some_iff.mp h5).1⟩
theorem vx_isRef {C n d : String} {v : Value} {A : Nat → Prop} {s : State} {args : Array Value} (h : va_Z C n d v A s s.heap) (hv : v.isRef = true) : (Cond.isRef (.static C n d)).before args s = true := by
  obtain ⟨cf, kf, fi, f, a, cell, h1, h2, h3, h4, h5, h6, h7, -⟩ := h
  have he : (Term.static C n d).eval args s none [] s = some v := by
    simp [Term.eval, State.fieldNamed?, h1, h2, h4, h5, h6, h7]
  simp only [Cond.before, Cond.holds, Cond.value, he]
  cases v <;> simp_all [Value.isRef]
theorem vx_isRefq {C n d : String} {A : Nat → Prop} {s : State} {args : Array Value} (h : va_Zq C n d A s s.heap) : (Cond.isRef (.static C n d)).before args s = true := by
  rcases h with h | ⟨t, h⟩
  · exact vx_isRef h rfl
  · exact vx_isRef h rfl
/-- the same frame, seen from here: as if the method were called anew in this heap -/
theorem vx_rebase {T : State} (X : Stand p l e R s m args below meth c T locs cells slots) {R' : Room} (hf : R'.frames ≤ R.frames) (hl : R'.locals ≤ R.locals) (hc : cells + R'.cells ≤ R.cells) (hs : slots + R'.slots ≤ R.slots) :
    Stand p l e R' ((T.setVm s.vm).setFrames (.invoking m args :: below)) m args below meth c T [] 0 0 := by
  have htop : (T.setVm s.vm).topJava?.isSome := X.here.top
  have hF : ((T.setVm s.vm).setFrames (.invoking m args :: below)).frames = .invoking m args :: below := State.frames_setFrames _ (State.cur_lt_of_top htop)
  obtain ⟨g₀, hg0⟩ := Option.isSome_iff_exists.mp htop
  obtain ⟨r, hr⟩ := State.topJava?_eq_some.mp hg0
  have hl9 : e.platform.stackLimits (T.setVm s.vm).me = e.platform.stackLimits s.me := X.limits
  have hb9 : (T.setVm s.vm).me.stackBytes = s.me.stackBytes := X.bytes
  refine ⟨X.admits, X.cas, X.clock, hF, ?_, X.hears, X.method, X.code, X.here, X.tail, X.warmed, ?_, ?_, ?_⟩
  · have h := X.room
    have hU : ((T.setVm s.vm).setFrames (.invoking m args :: below)).localsInUse = s.localsInUse := by
      rw [State.localsInUse_invoking hF (meth := meth) (c := c) X.method X.code, State.localsInUse_invoking X.frames X.method X.code]
    simp only [State.hasRoom, Bool.and_eq_true, decide_eq_true_eq] at h ⊢
    obtain ⟨⟨⟨⟨h1, h2, h3, h4, h5, h6⟩, h7⟩, h8⟩, h9⟩ := h
    rw [X.frames, List.length_cons] at h2 h3
    have q1 := X.heapSize
    have q2 := X.used
    simp only [hF, hU, List.length_cons, State.stackLimits_setFrames, State.stackBytes_setFrames, hl9, hb9]
    refine ⟨⟨⟨⟨by omega, by omega, by omega, by omega, by omega, h6⟩, ?_⟩, ?_⟩, X.book⟩
    · show T.heap.size + R'.cells ≤ e.platform.maxCells
      omega
    · show T.slotsUsed + R'.slots ≤ e.platform.maxSlots
      omega
  · rw [State.stackLimits_setFrames]; rfl
  · rw [State.stackBytes_setFrames]; rfl
  · refine ⟨?_, Nat.le_refl _, Nat.le_refl _, ?_, ?_, fun a c9 h9 => ⟨c9, h9, rfl, rfl, fun _ _ => rfl⟩⟩
    · obtain ⟨t, ht, -⟩ := State.frames_cons hr
      show T.setVm s.vm = { ((T.setVm s.vm).setFrames (.invoking m args :: below)).setFrames (T.setVm s.vm).frames with heap := T.heap, slotsUsed := T.slotsUsed }
      rw [State.setFrames_setFrames, State.setFrames_self ht]
      rfl
    · show T.slotsUsed = T.slotsUsed + ((T.heap.toList.drop T.heap.size).map (·.slots.size)).sum
      rw [List.drop_eq_nil_of_le (Nat.le_of_eq Array.length_toList)]
      rfl
    · show ((T.heap.toList.drop T.heap.size).map (·.slots.size)).sum ≤ 0
      rw [List.drop_eq_nil_of_le (Nat.le_of_eq Array.length_toList)]
      exact Nat.le_refl _
/-- 'throw new E()': new; dup; invokespecial; athrow -/
theorem vx_throw0 {cc : ByteArray} {pc : Nat} (hexec : p.tables.exec = Jvm.exec) (hb : c.code = cc) (hl : l.stackTraces = false) {own cls : String} {names : List String} {ik ic mc ms : Nat} {A : Nat → Prop}
    (hown : s.vm.findClass own = some m.cls) (hcls : Bundle.fit cls = true) (hnames : ∀ n ∈ names, Bundle.fit n = true)
    (hk : (Cond.classLink own ik cls).before args s = true) (hini : (Cond.initialized cls).before args s = true) (hat : ∀ w ∈ vx_at0 own ic cls names, w.before args s = true)
    (hgood : ∀ w ∈ Cond.classLink own ik cls :: Cond.initialized cls :: vx_at0 own ic cls names, vx_ot w = true)
    (hU : vx_Zq Bundle.tN "UNASSIGNED_STACK" Bundle.steD A s s.heap) (hN : vx_Zq Bundle.tN "SUPPRESSED_SENTINEL" Bundle.listD A s s.heap) (hS : va_S A s.heap H locs) (hsize : ls.size = c.maxLocals)
    (d0 : decode cc pc = .ok (.new ik, 3)) (d3 : decode cc (pc + 3) = .ok (.dup, 1)) (d4 : decode cc (pc + 4) = .ok (.invokespecial ic, 3)) (d7 : decode cc (pc + 7) = .ok (.athrow, 1))
    (hout : ∀ x ∈ c.exceptionTable.toList, covers x (pc + 7) = false)
    (hRframes : names.length + 3 < R.frames) (hRlocals : (rest.map fun v => v.category).sum + (13 * (names.length + 1) + 42) ≤ R.locals) (hRcells : cells + 1 ≤ R.cells) (hRslots : slots + 6 ≤ R.slots) (hlocks : meth.locks = false)
    (hx : ∀ t : State, s.vm.Alike t.vm → H.size ≤ t.heap.size → (∀ q : Nat, q < H.size → t.heap[q]? = H[q]?) → XC cls s t)
    (hf : ∀ z ∈ locs, free z.base) (hc : cells + 1 ≤ mc) (hs : slots + 6 ≤ ms) :
    W p l e R s m args below meth c H locs cells slots (vx_MQ below Qc XC args s mc ms free) (F0 m pc ls rest) := by
  intro T hT X
  have htr : e.platform.stackTraces = false := (show e.platform.stackTraces = l.stackTraces by rw [X.admits.platform]).trans hl
  have Y := vx_rebase X (R' := { frames := R.frames, locals := R.locals, cells := 1, slots := 6 }) (Nat.le_refl _) (Nat.le_refl _) hRcells hRslots
  obtain ⟨s', hA⟩ : ∃ z, z = (T.setVm s.vm).setFrames (.invoking m args :: below) := ⟨_, rfl⟩
  rw [← hA] at Y
  have hvm : s'.vm = s.vm := by rw [hA]; rfl
  have hhp : s'.heap = H := by rw [hA]; exact hT
  have hW0 : s.WarmedH s'.vm := by rw [hvm]; exact State.WarmedH.refl s
  have hat' : ∀ w ∈ vx_at0 own ic cls names, w.before args s' = true := fun w hw => vx_ot_at hW0 hvm.symm (hgood w (List.mem_cons_of_mem _ (List.mem_cons_of_mem _ hw))) (hat w hw)
  have hk' : (Cond.classLink own ik cls).before args s' = true := vx_ot_at hW0 hvm.symm (hgood _ List.mem_cons_self) hk
  have hini' : (Cond.initialized cls).before args s' = true := vx_ot_at hW0 hvm.symm (hgood _ (List.mem_cons_of_mem _ List.mem_cons_self)) hini
  have hU' : vx_Zq Bundle.tN "UNASSIGNED_STACK" Bundle.steD A s' s'.heap := by rw [hhp]; exact vx_Zq.moved hW0.alike (hU.kept hS.2.1)
  have hN' : vx_Zq Bundle.tN "SUPPRESSED_SENTINEL" Bundle.listD A s' s'.heap := by rw [hhp]; exact vx_Zq.moved hW0.alike (hN.kept hS.2.1)
  have h : ∀ w ∈ Bundle.ownAtoms0 own ic cls names, w.before args s' = true := vx_own hat' (vx_isRefq hU'.1) (vx_isRefq hN'.1) hU'.2.word hN'.2.word
  have hown' : s'.vm.findClass own = some m.cls := by rw [hvm]; exact hown
  have hins : (Cond.instantiable cls 6).before args s' = true := h _ (by simp [Bundle.ownAtoms0])
  obtain ⟨vm₁, cX, kX, hfX, hkX, -, -, X₁, st1⟩ := Y.newCold hexec (own := own) (C := cls) (index := ik) (n := 6) hown' hk' hins hini'
    (g := F0 m pc ls rest) rfl (by rw [hb]; exact d0) (Nat.le_refl _) (Nat.le_refl _)
  generalize hT1 : (T.setVm vm₁).pushCell { cls := cX, slots := kX.instanceTypes.map defaultValue, vm := .none } = T1 at X₁ st1
  have hcat : (Value.ref T.heap.size).category = 1 := rfl
  have hcellA : T1.heap[T.heap.size]? = some (freshCell cX kX) := by rw [← hT1]; exact State.heap_pushCell_size _ _
  have d3' : decode c.code (pc + 3) = .ok (.dup, 1) := by rw [hb]; exact d3
  obtain ⟨U, hsteps, hrun, hend, hW, hsame, ce, hce, hO⟩ := X₁.ctorThrow0 hexec htr (own := own) (cls := cls) (names := names) (ic := ic) hown' hcls hnames h (fun x hx => nomatch hx) hfX hkX hcellA (by rw [hhp, hT]; exact Nat.le_refl _)
    (g := { method := m, pc := pc + 4, locals := ls, stack := .ref T.heap.size :: .ref T.heap.size :: rest, locked := none }) rfl hsize rfl rfl (rest := rest) rfl
    (by rw [hb]; exact d4) (by rw [hb]; exact d7) hout hRframes (by simp only [List.map_cons, List.sum_cons, hcat]; omega) hlocks
  obtain ⟨f1, f2⟩ := vx_frame hsame
  rw [hhp] at f1 f2
  have hWs : s.WarmedH U.vm := State.WarmedH.trans hW0 hW
  have hcl : s.vm.findClass cls = some ce.cls := by
    have h9 := hO.cls
    rw [hvm] at h9
    exact h9
  have hall : s.sameButNew ({ U with vm := s.vm } : State) locs mc ms := by
    subst hA
    obtain ⟨e1, e2⟩ := hsame
    rw [State.setFrames_setFrames] at e1
    have h2 : (T.setVm s.vm).sameButNew ({ U with vm := s.vm } : State) [] (0 + 1) (0 + 6) := ⟨e1, e2⟩
    have h3 := X.same.trans h2
    rw [List.append_nil] at h3
    exact h3.mono hc hs
  refine ⟨U, ?_, .threw T.heap.size, hrun, hend, Or.inr ⟨T.heap.size, rfl, cls, ce, locs, hx U hWs.alike f1 (fun q hq => f2 q hq (fun z hz => nomatch hz)), hce, hO.vm, hcl, hWs, hall, hf⟩⟩
  refine st1 _ ?_
  show Steps p.tables e below (T1.setTop { method := m, pc := pc + 3, locals := ls, stack := .ref T.heap.size :: rest, locked := none }) _
  jvm_step X₁.here [X₁.here.top, hexec, d3', Value.category]
  exact hsteps
/-- 'throw new E("text")': new; dup; ldc; invokespecial; athrow -/
theorem vx_throwS {cc : ByteArray} {pc : Nat} (hexec : p.tables.exec = Jvm.exec) (hb : c.code = cc) (hl : l.stackTraces = false) {own cls text : String} {names : List String} {ik is ic mc ms sa : Nat} {A : Nat → Prop}
    (hown : s.vm.findClass own = some m.cls) (hcls : Bundle.fit cls = true) (hnames : ∀ n ∈ names, Bundle.fit n = true)
    (hk : (Cond.classLink own ik cls).before args s = true) (hini : (Cond.initialized cls).before args s = true) (hstr : vk_R own is text sa s) (hat : ∀ w ∈ vx_atS own ic cls names, w.before args s = true)
    (hgood : ∀ w ∈ Cond.classLink own ik cls :: Cond.initialized cls :: vx_atS own ic cls names, vx_ot w = true)
    (hU : vx_Zq Bundle.tN "UNASSIGNED_STACK" Bundle.steD A s s.heap) (hN : vx_Zq Bundle.tN "SUPPRESSED_SENTINEL" Bundle.listD A s s.heap) (hS : va_S A s.heap H locs) (hsize : ls.size = c.maxLocals)
    (d0 : decode cc pc = .ok (.new ik, 3)) (d3 : decode cc (pc + 3) = .ok (.dup, 1)) (d4 : decode cc (pc + 4) = .ok (.ldc is, 2)) (d6 : decode cc (pc + 6) = .ok (.invokespecial ic, 3)) (d9 : decode cc (pc + 9) = .ok (.athrow, 1))
    (hout : ∀ x ∈ c.exceptionTable.toList, covers x (pc + 9) = false)
    (hRframes : names.length + 3 < R.frames) (hRlocals : (rest.map fun v => v.category).sum + (13 * (names.length + 1) + 43) ≤ R.locals) (hRcells : cells + 1 ≤ R.cells) (hRslots : slots + 6 ≤ R.slots) (hlocks : meth.locks = false)
    (hx : ∀ t : State, s.vm.Alike t.vm → H.size ≤ t.heap.size → (∀ q : Nat, q < H.size → t.heap[q]? = H[q]?) → XC cls s t)
    (hf : ∀ z ∈ locs, free z.base) (hc : cells + 1 ≤ mc) (hs : slots + 6 ≤ ms) :
    W p l e R s m args below meth c H locs cells slots (vx_MQ below Qc XC args s mc ms free) (F0 m pc ls rest) := by
  intro T hT X
  have htr : e.platform.stackTraces = false := (show e.platform.stackTraces = l.stackTraces by rw [X.admits.platform]).trans hl
  have Y := vx_rebase X (R' := { frames := R.frames, locals := R.locals, cells := 1, slots := 6 }) (Nat.le_refl _) (Nat.le_refl _) hRcells hRslots
  obtain ⟨s', hA⟩ : ∃ z, z = (T.setVm s.vm).setFrames (.invoking m args :: below) := ⟨_, rfl⟩
  rw [← hA] at Y
  have hvm : s'.vm = s.vm := by rw [hA]; rfl
  have hhp : s'.heap = H := by rw [hA]; exact hT
  have hW0 : s.WarmedH s'.vm := by rw [hvm]; exact State.WarmedH.refl s
  have hat' : ∀ w ∈ vx_atS own ic cls names, w.before args s' = true := fun w hw => vx_ot_at hW0 hvm.symm (hgood w (List.mem_cons_of_mem _ (List.mem_cons_of_mem _ hw))) (hat w hw)
  have hk' : (Cond.classLink own ik cls).before args s' = true := vx_ot_at hW0 hvm.symm (hgood _ List.mem_cons_self) hk
  have hini' : (Cond.initialized cls).before args s' = true := vx_ot_at hW0 hvm.symm (hgood _ (List.mem_cons_of_mem _ List.mem_cons_self)) hini
  have hU' : vx_Zq Bundle.tN "UNASSIGNED_STACK" Bundle.steD A s' s'.heap := by rw [hhp]; exact vx_Zq.moved hW0.alike (hU.kept hS.2.1)
  have hN' : vx_Zq Bundle.tN "SUPPRESSED_SENTINEL" Bundle.listD A s' s'.heap := by rw [hhp]; exact vx_Zq.moved hW0.alike (hN.kept hS.2.1)
  have h : ∀ w ∈ Bundle.ownAtoms own ic cls names, w.before args s' = true := vx_own hat' (vx_isRefq hU'.1) (vx_isRefq hN'.1) hU'.2.word hN'.2.word
  have hown' : s'.vm.findClass own = some m.cls := by rw [hvm]; exact hown
  have hins : (Cond.instantiable cls 6).before args s' = true := h _ (by simp [Bundle.ownAtoms])
  obtain ⟨vm₁, cX, kX, hfX, hkX, -, -, X₁, st1⟩ := Y.newCold hexec (own := own) (C := cls) (index := ik) (n := 6) hown' hk' hins hini'
    (g := F0 m pc ls rest) rfl (by rw [hb]; exact d0) (Nat.le_refl _) (Nat.le_refl _)
  generalize hT1 : (T.setVm vm₁).pushCell { cls := cX, slots := kX.instanceTypes.map defaultValue, vm := .none } = T1 at X₁ st1
  have hcat : (Value.ref T.heap.size).category = 1 := rfl
  have hcellA : T1.heap[T.heap.size]? = some (freshCell cX kX) := by rw [← hT1]; exact State.heap_pushCell_size _ _
  have d3' : decode c.code (pc + 3) = .ok (.dup, 1) := by rw [hb]; exact d3
  have d4' : decode c.code (pc + 4) = .ok (.ldc is, 2) := by rw [hb]; exact d4
  have hstr' : vk_R own is text sa s' := vk_R.warm hW0 hstr
  obtain ⟨U, hsteps, hrun, hend, hW, hsame, ce, hce, hO⟩ := X₁.ctorThrowS hexec htr (own := own) (cls := cls) (names := names) (ic := ic) hown' hcls hnames h (fun x hx => nomatch hx) hfX hkX hcellA (by rw [hhp, hT]; exact Nat.le_refl _) (msg := .ref sa) rfl
    (g := { method := m, pc := pc + 6, locals := ls, stack := .ref sa :: .ref T.heap.size :: .ref T.heap.size :: rest, locked := none }) rfl hsize rfl rfl (rest := rest) rfl
    (by rw [hb]; exact d6) (by rw [hb]; exact d9) hout hRframes (by simp only [List.map_cons, List.sum_cons, hcat]; omega) hlocks
  obtain ⟨f1, f2⟩ := vx_frame hsame
  rw [hhp] at f1 f2
  have hWs : s.WarmedH U.vm := State.WarmedH.trans hW0 hW
  have hcl : s.vm.findClass cls = some ce.cls := by
    have h9 := hO.cls
    rw [hvm] at h9
    exact h9
  have hall : s.sameButNew ({ U with vm := s.vm } : State) locs mc ms := by
    subst hA
    obtain ⟨e1, e2⟩ := hsame
    rw [State.setFrames_setFrames] at e1
    have h2 : (T.setVm s.vm).sameButNew ({ U with vm := s.vm } : State) [] (0 + 1) (0 + 6) := ⟨e1, e2⟩
    have h3 := X.same.trans h2
    rw [List.append_nil] at h3
    exact h3.mono hc hs
  refine ⟨U, ?_, .threw T.heap.size, hrun, hend, Or.inr ⟨T.heap.size, rfl, cls, ce, locs, hx U hWs.alike f1 (fun q hq => f2 q hq (fun z hz => nomatch hz)), hce, hO.vm, hcl, hWs, hall, hf⟩⟩
  refine st1 _ ?_
  show Steps p.tables e below (T1.setTop { method := m, pc := pc + 3, locals := ls, stack := .ref T.heap.size :: rest, locked := none }) _
  jvm_step X₁.here [X₁.here.top, hexec, d3', Value.category]
  exact X₁.ldcString hexec (own := own) (text := text) (index := is) (a := sa) hown' hstr'.1 hstr'.2
    (g := { method := m, pc := pc + 4, locals := ls, stack := .ref T.heap.size :: .ref T.heap.size :: rest, locked := none }) rfl d4' _ hsteps
/-- 'throw new E("text")', the text by a wide index -/
theorem vx_throwSW {cc : ByteArray} {pc : Nat} (hexec : p.tables.exec = Jvm.exec) (hb : c.code = cc) (hl : l.stackTraces = false) {own cls text : String} {names : List String} {ik is ic mc ms sa : Nat} {A : Nat → Prop}
    (hown : s.vm.findClass own = some m.cls) (hcls : Bundle.fit cls = true) (hnames : ∀ n ∈ names, Bundle.fit n = true)
    (hk : (Cond.classLink own ik cls).before args s = true) (hini : (Cond.initialized cls).before args s = true) (hstr : vk_R own is text sa s) (hat : ∀ w ∈ vx_atS own ic cls names, w.before args s = true)
    (hgood : ∀ w ∈ Cond.classLink own ik cls :: Cond.initialized cls :: vx_atS own ic cls names, vx_ot w = true)
    (hU : vx_Zq Bundle.tN "UNASSIGNED_STACK" Bundle.steD A s s.heap) (hN : vx_Zq Bundle.tN "SUPPRESSED_SENTINEL" Bundle.listD A s s.heap) (hS : va_S A s.heap H locs) (hsize : ls.size = c.maxLocals)
    (d0 : decode cc pc = .ok (.new ik, 3)) (d3 : decode cc (pc + 3) = .ok (.dup, 1)) (d4 : decode cc (pc + 4) = .ok (.ldc_w is, 3)) (d7 : decode cc (pc + 7) = .ok (.invokespecial ic, 3)) (d10 : decode cc (pc + 10) = .ok (.athrow, 1))
    (hout : ∀ x ∈ c.exceptionTable.toList, covers x (pc + 10) = false)
    (hRframes : names.length + 3 < R.frames) (hRlocals : (rest.map fun v => v.category).sum + (13 * (names.length + 1) + 43) ≤ R.locals) (hRcells : cells + 1 ≤ R.cells) (hRslots : slots + 6 ≤ R.slots) (hlocks : meth.locks = false)
    (hx : ∀ t : State, s.vm.Alike t.vm → H.size ≤ t.heap.size → (∀ q : Nat, q < H.size → t.heap[q]? = H[q]?) → XC cls s t)
    (hf : ∀ z ∈ locs, free z.base) (hc : cells + 1 ≤ mc) (hs : slots + 6 ≤ ms) :
    W p l e R s m args below meth c H locs cells slots (vx_MQ below Qc XC args s mc ms free) (F0 m pc ls rest) := by
  intro T hT X
  have htr : e.platform.stackTraces = false := (show e.platform.stackTraces = l.stackTraces by rw [X.admits.platform]).trans hl
  have Y := vx_rebase X (R' := { frames := R.frames, locals := R.locals, cells := 1, slots := 6 }) (Nat.le_refl _) (Nat.le_refl _) hRcells hRslots
  obtain ⟨s', hA⟩ : ∃ z, z = (T.setVm s.vm).setFrames (.invoking m args :: below) := ⟨_, rfl⟩
  rw [← hA] at Y
  have hvm : s'.vm = s.vm := by rw [hA]; rfl
  have hhp : s'.heap = H := by rw [hA]; exact hT
  have hW0 : s.WarmedH s'.vm := by rw [hvm]; exact State.WarmedH.refl s
  have hat' : ∀ w ∈ vx_atS own ic cls names, w.before args s' = true := fun w hw => vx_ot_at hW0 hvm.symm (hgood w (List.mem_cons_of_mem _ (List.mem_cons_of_mem _ hw))) (hat w hw)
  have hk' : (Cond.classLink own ik cls).before args s' = true := vx_ot_at hW0 hvm.symm (hgood _ List.mem_cons_self) hk
  have hini' : (Cond.initialized cls).before args s' = true := vx_ot_at hW0 hvm.symm (hgood _ (List.mem_cons_of_mem _ List.mem_cons_self)) hini
  have hU' : vx_Zq Bundle.tN "UNASSIGNED_STACK" Bundle.steD A s' s'.heap := by rw [hhp]; exact vx_Zq.moved hW0.alike (hU.kept hS.2.1)
  have hN' : vx_Zq Bundle.tN "SUPPRESSED_SENTINEL" Bundle.listD A s' s'.heap := by rw [hhp]; exact vx_Zq.moved hW0.alike (hN.kept hS.2.1)
  have h : ∀ w ∈ Bundle.ownAtoms own ic cls names, w.before args s' = true := vx_own hat' (vx_isRefq hU'.1) (vx_isRefq hN'.1) hU'.2.word hN'.2.word
  have hown' : s'.vm.findClass own = some m.cls := by rw [hvm]; exact hown
  have hins : (Cond.instantiable cls 6).before args s' = true := h _ (by simp [Bundle.ownAtoms])
  obtain ⟨vm₁, cX, kX, hfX, hkX, -, -, X₁, st1⟩ := Y.newCold hexec (own := own) (C := cls) (index := ik) (n := 6) hown' hk' hins hini'
    (g := F0 m pc ls rest) rfl (by rw [hb]; exact d0) (Nat.le_refl _) (Nat.le_refl _)
  generalize hT1 : (T.setVm vm₁).pushCell { cls := cX, slots := kX.instanceTypes.map defaultValue, vm := .none } = T1 at X₁ st1
  have hcat : (Value.ref T.heap.size).category = 1 := rfl
  have hcellA : T1.heap[T.heap.size]? = some (freshCell cX kX) := by rw [← hT1]; exact State.heap_pushCell_size _ _
  have d3' : decode c.code (pc + 3) = .ok (.dup, 1) := by rw [hb]; exact d3
  have d4' : decode c.code (pc + 4) = .ok (.ldc_w is, 3) := by rw [hb]; exact d4
  have hstr' : vk_R own is text sa s' := vk_R.warm hW0 hstr
  obtain ⟨U, hsteps, hrun, hend, hW, hsame, ce, hce, hO⟩ := X₁.ctorThrowS hexec htr (own := own) (cls := cls) (names := names) (ic := ic) hown' hcls hnames h (fun x hx => nomatch hx) hfX hkX hcellA (by rw [hhp, hT]; exact Nat.le_refl _) (msg := .ref sa) rfl
    (g := { method := m, pc := pc + 7, locals := ls, stack := .ref sa :: .ref T.heap.size :: .ref T.heap.size :: rest, locked := none }) rfl hsize rfl rfl (rest := rest) rfl
    (by rw [hb]; exact d7) (by rw [hb]; exact d10) hout hRframes (by simp only [List.map_cons, List.sum_cons, hcat]; omega) hlocks
  obtain ⟨f1, f2⟩ := vx_frame hsame
  rw [hhp] at f1 f2
  have hWs : s.WarmedH U.vm := State.WarmedH.trans hW0 hW
  have hcl : s.vm.findClass cls = some ce.cls := by
    have h9 := hO.cls
    rw [hvm] at h9
    exact h9
  have hall : s.sameButNew ({ U with vm := s.vm } : State) locs mc ms := by
    subst hA
    obtain ⟨e1, e2⟩ := hsame
    rw [State.setFrames_setFrames] at e1
    have h2 : (T.setVm s.vm).sameButNew ({ U with vm := s.vm } : State) [] (0 + 1) (0 + 6) := ⟨e1, e2⟩
    have h3 := X.same.trans h2
    rw [List.append_nil] at h3
    exact h3.mono hc hs
  refine ⟨U, ?_, .threw T.heap.size, hrun, hend, Or.inr ⟨T.heap.size, rfl, cls, ce, locs, hx U hWs.alike f1 (fun q hq => f2 q hq (fun z hz => nomatch hz)), hce, hO.vm, hcl, hWs, hall, hf⟩⟩
  refine st1 _ ?_
  show Steps p.tables e below (T1.setTop { method := m, pc := pc + 3, locals := ls, stack := .ref T.heap.size :: rest, locked := none }) _
  jvm_step X₁.here [X₁.here.top, hexec, d3', Value.category]
  exact X₁.ldcStringW hexec (own := own) (text := text) (index := is) (a := sa) hown' hstr'.1 hstr'.2
    (g := { method := m, pc := pc + 4, locals := ls, stack := .ref T.heap.size :: .ref T.heap.size :: rest, locked := none }) rfl d4' _ hsteps
end Ends
section Bodies
variable {l : Launch}
theorem vx_ofW {y : MethodName} {ws ws' : List Cond} {rm : Room} {Pc : Array Value → State → Prop} {Qc : Array Value → State → Outcome → State → Prop} {XC : String → State → State → Prop} {mc ms : Nat} {free : Addr → Prop} {cc : ByteArray} {maxL : Nat} {ret : Option FieldType}
    (hy : plainName y.cls = true) (hw : ws = Cond.code y cc maxL ret :: ws')
    (body : ∀ p e s m args below meth c s₁, BodyLoose p l y (headSpec ws rm) cc maxL ret e s m args below meth c s₁ → c.maxLocals = maxL → (∀ x ∈ c.exceptionTable.toList, False) → Pc args s →
      W p l e (headSpec ws rm).room s m args below meth c s.heap [] 0 0 (vx_MQ below Qc XC args s mc ms free) (entryFrame m args maxL)) : vx_Met l y ws rm Pc Qc XC mc ms free := by
  refine MetFree.of_bodyS (code := cc) (maxLocals := maxL) (ret := ret) hy ?_ ?_
  · intro args s m h hn
    obtain ⟨meth, c, h1, h2, h3, h4, h5, h6, -, -⟩ := Cond.code_spec hn (atoms_spec (ws := ws) h _ (by rw [hw]; exact List.mem_cons_self))
    exact ⟨meth, c, h1, h2, h3, h4, h5, h6⟩
  · intro p e s m args below meth c s₁ B hml hP _
    have hh0 : s₁.heap = s.heap := by rw [B.state]; rfl
    have ht : ∀ x ∈ c.exceptionTable.toList, False := by
      obtain ⟨meth9, c9, h1, h2, -, -, -, -, h7, -⟩ := Cond.code_spec B.named (atoms_spec (ws := ws) B.pre _ (by rw [hw]; exact List.mem_cons_self))
      cases Option.some.inj (h1.symm.trans B.method)
      cases Option.some.inj (h2.symm.trans (Stand.of_body B).code)
      intro x hx
      rw [Array.isEmpty_iff.mp h7] at hx
      cases hx
    obtain ⟨t, a1, o, b1, b2, b3⟩ := body p e s m args below meth c s₁ B hml ht hP s₁ hh0 (Stand.of_body B)
    exact ⟨t, o, a1, b1, b2, b3⟩
/-- the table of a body with handlers -/
theorem vx_table {p : Program} {x y : MethodName} {S : Spec} {cc bytes : ByteArray} {maxL maxL' : Nat} {ret ret' : Option FieldType} {e : Env} {s s₁ : State} {m : MethodId} {args : Array Value} {below : List Frame} {meth : Method} {c : Code} {hh : List (Nat × Nat × Nat × Nat)}
    (B : BodyLoose p l y S cc maxL ret e s m args below meth c s₁) (h : (Cond.codeWith y bytes maxL' ret' hh).before args s = true) : c.exceptionTable.toList = tableOf hh := by
  obtain ⟨m9, meth9, c9, hn9, h1, h2, -, -, h6, -⟩ := Cond.codeWith_spec h
  cases Option.some.inj (hn9.symm.trans B.named)
  cases Option.some.inj (h1.symm.trans B.method)
  cases Option.some.inj (h2.symm.trans (Stand.of_body B).code)
  rw [← h6, table_eq]
end Bodies
end VXA
/-! ===== END ===== -/
/-! ===== BEGIN a static call of a method with an exception table ===== -/
section VXS
variable {p : Program} {l : Launch} {e : Env} {R : Room} {s : State} {m : MethodId} {args : Array Value} {below : List Frame} {meth : Method} {c : Code} {T : State} {H : Heap} {locs : List Loc} {cells slots : Nat}
abbrev vx_CSW (R : Room) (s : State) (args : Array Value) (own : String) (index : Nat) (y : MethodName) (bytes : ByteArray) (maxL : Nat) (ret : Option FieldType) (hh : List (Nat × Nat × Nat × Nat)) (ws : List Cond) (rm : Room) (mc ms n : Nat) : Prop :=
  (rm.cells = mc ∧ rm.slots = ms ∧ rm.frames + 1 ≤ R.frames ∧ 8 + (maxL + 11) + rm.locals ≤ R.locals ∧ (∀ w ∈ ws, ∀ (a' : Array Value) (U : State), s.WarmedH U.vm → w.before a' U = true) ∧ Cond.codeWith y bytes maxL ret hh ∈ ws) ∧
  (Cond.codeWith y bytes maxL ret hh).before args s = true ∧ (Cond.initialized y.cls).before args s = true ∧ (y.cls ≠ "java/lang/invoke/MethodHandle" ∧ y.cls ≠ "java/lang/invoke/VarHandle") ∧
  (∀ sig, parseMethodDescriptor y.desc = some sig → n = sig.parameters.length) ∧ (Cond.methodLink own index y).before args s = true ∧ (Cond.static y).before args s = true
theorem vx_cwSW {own : String} {index maxL mc ms : Nat} {y : MethodName} {bytes : ByteArray} {ret : Option FieldType} {hh : List (Nat × Nat × Nat × Nat)} {Ts ws ws' : List Cond} {rm : Room} (n : Nat) (ht : ∀ w ∈ Ts, w.before args s = true) (hT : GoodIn Ts (va_wsS own index y ws)) (hw : ws = Cond.codeWith y bytes maxL ret hh :: ws') (hrc : rm.cells = mc) (hrs : rm.slots = ms)
    (hd : y.cls ≠ "java/lang/invoke/MethodHandle" ∧ y.cls ≠ "java/lang/invoke/VarHandle" ∧ (parseMethodDescriptor y.desc).map (fun d => d.parameters.length) = some n) (hR : rm.frames + 1 ≤ R.frames ∧ 8 + (maxL + 11) + rm.locals ≤ R.locals) :
    vx_CSW R s args own index y bytes maxL ret hh ws rm mc ms n := by
  have ok : ∀ w ∈ va_wsS own index y ws, w.before args s = true := fun w h => ht w (hT w h).1
  have hG : GoodIn Ts ws := fun w h => hT w (by unfold va_wsS; exact List.mem_append_right _ h)
  have hc : Cond.codeWith y bytes maxL ret hh ∈ ws := by rw [hw]; exact List.mem_cons_self
  refine ⟨⟨hrc, hrs, hR.1, hR.2, pay_in ht hG, hc⟩, ht _ (hG _ hc).1, ok _ (by simp [va_wsS]), ⟨hd.1, hd.2.1⟩, fun sig h => ?_, ok _ (by simp [va_wsS]), ok _ (by simp [va_wsS])⟩
  have h2 := hd.2.2
  rw [h] at h2
  exact (Option.some.inj h2).symm
theorem vx_callSW (X : Stand p l e R s m args below meth c T locs cells slots) (hexec : p.tables.exec = Jvm.exec) {own : String} {index : Nat} {y : MethodName} {bytes : ByteArray} {maxL : Nat} {ret : Option FieldType} {hh : List (Nat × Nat × Nat × Nat)}
    (hown : s.vm.findClass own = some m.cls) (hlink : (Cond.methodLink own index y).before args s = true) (hstat : (Cond.static y).before args s = true) (hinit : (Cond.initialized y.cls).before args s = true)
    (hcode : (Cond.codeWith y bytes maxL ret hh).before args s = true) (hy : y.cls ≠ "java/lang/invoke/MethodHandle" ∧ y.cls ≠ "java/lang/invoke/VarHandle")
    {W9 : Nat} {Pre : Pt → Array Value → Prop} {Post : Pt → Array Value → Option Value → Pt → Prop} (hK : Back l R p e below s args y 3 W9 Pre Post)
    {g : JFrame} (hg : g.method = m) (hsize : g.locals.size = c.maxLocals) {argsL rest : List Value} (hlen : ∀ sig, parseMethodDescriptor y.desc = some sig → argsL.length = sig.parameters.length)
    (hstack : g.stack = argsL.reverse ++ rest) (hW : 2 * g.monitorRoom + (rest.map fun v => v.category).sum ≤ W9) (hdg : decode c.code g.pc = .ok (.invokestatic index, 3))
    (hpre : ∀ vm₁, s.WarmedH vm₁ → Pre ⟨T.setVm vm₁, locs, cells, slots⟩ argsL.toArray) :
    ∃ (v : Option Value) (vm₁ : Vm) (B : Pt), s.WarmedH vm₁ ∧ Stand p l e R s m args below meth c B.U B.locs B.cells B.slots ∧ Post ⟨T.setVm vm₁, locs, cells, slots⟩ argsL.toArray v B ∧
      ∀ target, Steps p.tables e below (B.U.setTop { g with pc := g.pc + 3, stack := v.toList ++ rest }) target → Steps p.tables e below (T.setTop g) target := by
  obtain ⟨mk, methM, cM, hnamed, hmethM, -, -, -, -, -, -, hsigM⟩ := Cond.codeWith_spec hcode
  have hstatic : methM.isStatic = true := Cond.static_spec hnamed hmethM hstat
  obtain ⟨kP, hkP, -⟩ := className_of_methodNamed hnamed
  have hinitP : kP.init = .initialized := Cond.initialized_spec (findClass_of_methodNamed hnamed) hkP hinit
  obtain ⟨vm₁, X₁, hstep₁⟩ := X.invokestatic hexec hown hlink hnamed hmethM hstatic hkP hinitP hy (g := g) hg (argsL := argsL) (rest := rest) (hlen _ hsigM) hstack hdg
  obtain ⟨v, B, X', hpost, hsteps⟩ := hK m meth c ⟨T.setVm vm₁, locs, cells, slots⟩ { g with stack := rest } (.invokestatic index) mk argsL.toArray X₁ hg hsize hdg hW (X₁.named hnamed) (hpre vm₁ X₁.warmed)
  exact ⟨v, vm₁, B, X₁.warmed, X', hpost, fun target h => hstep₁ _ fun acts => by rw [doInvoke_state]; exact hsteps.trans h⟩
theorem vx_runSW {y : MethodName} {bytes cc : ByteArray} {maxL nL mc ms n index : Nat} {ret : Option FieldType} {hh : List (Nat × Nat × Nat × Nat)} {ws : List Cond} {rm : Room} {Pc : Array Value → State → Prop} {Qc : Array Value → State → Outcome → State → Prop} {free : Addr → Prop} {Ts : List Cond} {own : String} {As rest : List Value} {g : JFrame}
    (S : CallFix p m c cc nL s args Ts own) (hM : Met l y ws rm Pc Qc mc ms free) (cw : vx_CSW R s args own index y bytes maxL ret hh ws rm mc ms n) (hp : PreS s H Pc As)
    (hg : g.method = m) (hn : As.length = n) (hsize : g.locals.size = nL) (hstack : g.stack = As.reverse ++ rest) (hW : 2 * g.monitorRoom + (rest.map fun v => v.category).sum ≤ 8) (hdg : decode cc g.pc = .ok (.invokestatic index, 3)) (hf : cells + mc ≤ R.cells ∧ slots + ms ≤ R.slots) :
    va_Run p l e R s m args below meth c H locs cells slots mc ms g rest (Qc As.toArray) (free) := by
  obtain ⟨⟨hrc, hrs, hfr, hlo, hws, hcw⟩, hcode, hini, hy, hlen, hl, hstt⟩ := cw
  have hK : Back l R p e below s args y 3 8 (PreOf R mc ms Pc) (PostOf Qc mc ms free) := va_backW (hh := hh) (bytes := bytes) (maxL := maxL) (ret := ret) hM hp.1 hrc hrs hfr hlo hws hcw (fun a' U hW => word_at hW (Or.inl (by first | rfl | simp [Cond.onTables, Cond.keeps, Cond.steady])) hini)
  obtain ⟨hx, hb, hml, ho, -⟩ := S
  intro T hT X
  obtain ⟨v, vm₁, ⟨U', l2, c2, s2⟩, hW₁, X', ⟨g', mk, t, L, e1, e2, hq, h1, hL, h2, h3⟩, st⟩ := vx_callSW X hx (hh := hh) (bytes := bytes) (maxL := maxL) (ret := ret) ho hl hstt hini hcode hy hK hg (hsize.trans hml.symm) (argsL := As) (rest := rest) (fun sig h => hn.trans (hlen sig h)) hstack hW (by rw [hb]; exact hdg)
    (fun vm₁ hW₁ => ⟨hf.1, hf.2, hp.2 (T.setVm vm₁) hT hW₁⟩)
  dsimp only [Pt.U, Pt.locs, Pt.cells, Pt.slots] at X' e1 e2 h1 h2 h3 st
  subst h1; subst h2; subst h3
  exact ⟨v, (T.setVm vm₁).calling g' mk As.toArray, t, U', L, hT, X', hL, e1, e2, hq, st⟩
/-- not caught here, past rows that name other classes: it goes on to the caller -/
theorem vx_outP {p : Program} {l : Launch} {e : Env} {R : Room} {s : State} {m : MethodId} {args : Array Value} {below : List Frame} {meth : Method} {c : Code} {H : Heap} {locs : List Loc} {cells slots : Nat} {free : Addr → Prop} {ls : Array Slot} {rest : List Value} {Qc : Array Value → State → Outcome → State → Prop} {XC : String → State → State → Prop}
    {pc : Nat} {own E : String} {ce : Cell} {q : Addr} {mc ms : Nat} (hown : s.vm.findClass own = some m.cls) (hlocks : meth.locks = false)
    (hpass : ∀ z ∈ c.exceptionTable.toList, covers z pc = false ∨ (z.catchType ≠ 0 ∧ ∃ nm : String, (Cond.classLink own z.catchType nm).before args s = true ∧ va_Nc E nm s)) (hcell : H[q]? = some ce) (hv : ce.vm = .none) (hcl : s.vm.findClass E = some ce.cls)
    (hx : ∀ t : State, t.heap = H → s.vm.Alike t.vm → XC E s t) (hf : ∀ z ∈ locs, free z.base) (hc : cells ≤ mc) (hs : slots ≤ ms) :
    vx_W p l e R s m args below meth c H locs cells slots (vx_MQ below Qc XC args s mc ms free) (F0 m pc ls rest) q := by
  intro T hT X
  have hpl : e.platform.magicAccessors = ({} : Platform).magicAccessors := by rw [X.admits.platform]
  obtain ⟨vm', hW', X', st⟩ := X.outThrough hlocks q (g := F0 m pc ls rest) rfl rfl rfl (cell := ce) (by rw [hT]; exact hcell) (by rw [hv]; rfl)
    (by obtain ⟨k9, h9, -⟩ := Vm.findClass_spec hcl; exact ⟨k9, h9⟩) (fun z hz => by
      rcases hpass z hz with h | ⟨hz0, nm, hl1, hn1⟩
      · exact Or.inl h
      · obtain ⟨c6, hc6, hcl6⟩ := Cond.classLink_spec hown hl1 e.platform hpl
        obtain ⟨a8, b8, h1, h2, h3⟩ := hn1
        cases Option.some.inj (h1.symm.trans hcl)
        cases Option.some.inj (h2.symm.trans hc6)
        exact Or.inr ⟨hz0, _, hcl6, h3⟩)
  obtain ⟨g₀, hfr⟩ := X'.frames_eq
  have hcell9 : ((T.setVm vm').setFrames (.throwing q :: below)).heap[q]? = some ce := by
    show T.heap[q]? = some ce
    rw [hT]; exact hcell
  have hend : Ended ((T.setVm vm').setFrames (.throwing q :: below)) below (.threw q) := State.frames_setFrames _ (State.cur_lt_of_frames hfr)
  refine ⟨(T.setVm vm').setFrames (.throwing q :: below), ?_, .threw q, X'.here.running, hend, Or.inr ⟨q, rfl, E, ce, locs, hx _ hT (X'.ends _).1.alike, hcell9, hv, hcl, (X'.ends _).1, (X'.ends _).2.mono hc hs, hf⟩⟩
  rw [X.pushThrowing_eq]
  exact st
/-- a thing of a world lies in the heap -/
theorem vx_lt {D : va_G} {cl : List vw_C} {ws : va_W} {H1 : Heap} (h : va_P D cl ws H1) {k : Nat} {q : Nat × va_E} (hk : ws[k]? = some q) : q.1 < H1.size := (h k q hk).lt
end VXS
/-! ===== END ===== -/
/-! ===== BEGIN methods with a table of their own: called by a name, returning or throwing ===== -/
section VXH
/-! vx_backW, vx_callVX, vx_callSX, vx_callVW, vx_runVW, vx_runVX, vx_runSX, vx_ofWH follow the same proofs as their sisters above (Free/Laws.lean, Shelf42/LK1.lean); vx_outP calls Shelf42/NT130.lean (outThrough). -/
section
variable {l : Launch} {R : Room} {p : Program} {e : Env} {below : List Frame} {s : State} {sargs : Array Value} {y : MethodName} {len W9 : Nat}
theorem vx_backW {ws : List Cond} {rm : Room} {Pc : Array Value → State → Prop} {Qc : Array Value → State → Outcome → State → Prop} {XC : String → State → State → Prop} {mc ms : Nat} {free : Addr → Prop} {bytes : ByteArray} {maxL : Nat} {ret : Option FieldType} {hh : List (Nat × Nat × Nat × Nat)}
    (hM : vx_Met l y ws rm Pc Qc XC mc ms free) (hblind : FrameBlind Pc) (hrc : rm.cells = mc) (hrs : rm.slots = ms)
    (hframes : rm.frames + 1 ≤ R.frames) (hlocals : W9 + (maxL + 11) + rm.locals ≤ R.locals)
    (hws : ∀ w ∈ ws, ∀ a' U, s.WarmedH U.vm → w.before a' U = true) (hcode : Cond.codeWith y bytes maxL ret hh ∈ ws) (hinit : ∀ a' U, s.WarmedH U.vm → (Cond.initialized y.cls).before a' U = true) :
    vx_Back l R p e below s sargs y len W9 (PreOf R mc ms Pc) (PostOf Qc mc ms free) (vx_Post XC mc ms free) := by
  intro m meth c A g ig mk a X hg hsize hdg hW hn hp
  have h1 : (headSpec ws rm).pre.before a A.U = true := atoms_intro fun w hw => hws w hw _ _ X.warmed
  have h2 : (Cond.codeWith y bytes maxL ret hh).before a A.U = true := hws _ hcode _ _ X.warmed
  have h3 : (Cond.initialized y.cls).before a A.U = true := hinit _ _ X.warmed
  have h4 : A.cells + (headSpec ws rm).room.cells ≤ R.cells := by rw [show (headSpec ws rm).room.cells = mc from hrc]; exact hp.1
  have h5 : A.slots + (headSpec ws rm).room.slots ≤ R.slots := by rw [show (headSpec ws rm).room.slots = ms from hrs]; exact hp.2.1
  have hPc : Pc a (A.U.calling g mk a) := hblind _ _ _ _ hp.2.2
  obtain ⟨U, Ls, c0, s0⟩ := A
  dsimp only [Pt.U, Pt.locs, Pt.cells, Pt.slots] at h1 h2 h3 h4 h5 X hn hPc ⊢
  obtain ⟨m9, methY, cY, hn9, hmY, hcY, -, hlY, -⟩ := Cond.codeWith_spec h2
  cases Option.some.inj (hn9.symm.trans hn)
  obtain ⟨kY, hkY, -⟩ := className_of_methodNamed hn
  have hinitY : kY.init = .initialized := Cond.initialized_spec (findClass_of_methodNamed hn) hkY h3
  have h : At U g.method c below := by rw [hg]; exact X.here
  have hlocals9 : W9 + (maxL + 11) + (headSpec ws rm).room.locals ≤ R.locals := hlocals
  have happ : (headSpec ws rm).appliesLoose y e.platform (U.calling g mk a) = true :=
    Spec.appliesLoose_calling (g := g) h hdg hn hkY hinitY
      (X.room_calling (g := g) (R' := (headSpec ws rm).room) hsize hmY hcY hframes (by rw [hlY]; omega) h4 h5) h1
  obtain ⟨mid, hmid⟩ := h.above
  have hfr : (U.setTop g).frames = (.java g :: mid) ++ below := by rw [State.frames_setTop' g h.top, hmid]; rfl
  obtain ⟨o, s₂, hsteps, -, hend, hq⟩ := Steps.callFree hM p X.admits X.cas X.clock (acts := []) hfr happ hPc trivial
  have hq' : vx_Q Qc XC mc ms free a (U.calling g mk a) o s₂ := hq
  rw [State.frames_setTop' g h.top] at hend
  obtain ⟨g₀, hg0⟩ := Option.isSome_iff_exists.mp h.top
  obtain ⟨r, hr⟩ := State.topJava?_eq_some.mp hg0
  have hr' : (({ U with heap := s₂.heap, slotsUsed := s₂.slotsUsed } : State).setVm s₂.vm).frames = .java g₀ :: r := hr
  rcases hq' with ⟨hqc, L, hfe, hL⟩ | ⟨q, rfl, E, ce, L, hx, hce, hcv, hcl, hW₂, hsm, hL⟩
  · obtain ⟨⟨v, rfl⟩, hW₂, e2, q2, q3, q4, q5, q6⟩ := id hfe
    have e3 : s₂ = ({ (U.calling g mk a).setFrames s₂.frames with heap := s₂.heap, slotsUsed := s₂.slotsUsed } : State).setVm s₂.vm := by
      have : s₂ = ({ s₂ with vm := (U.calling g mk a).vm } : State).setVm s₂.vm := rfl
      rw [e2] at this
      exact this
    obtain ⟨c₂, i₂, len₂, hc₂, hd₂, hf₂⟩ := hend
    have hW' : U.WarmedH s₂.vm := hW₂
    have hcc : c₂ = c := by
      have h1 : s₂.code? g.method = U.code? g.method := by
        rw [State.code?_eq, State.code?_eq, hW'.alike.method?]
      exact Option.some.inj (hc₂.symm.trans (h1.trans h.code))
    subst hcc
    have hlen : len₂ = len := by rw [hdg] at hd₂; cases hd₂; rfl
    subst hlen
    have hs₂ : s₂ = (({ U with heap := s₂.heap, slotsUsed := s₂.slotsUsed } : State).setVm s₂.vm).setTop { g with pc := g.pc + len₂, stack := v.toList ++ g.stack } := by
      refine e3.trans ?_
      rw [hf₂, State.calling_eq h.top, State.setFrames_setFrames, State.setTop_of_frames _ hr', hr]
      rfl
    have hsame : U.sameButNew ({ U with heap := s₂.heap, slotsUsed := s₂.slotsUsed } : State) L mc ms := by
      refine ⟨?_, q2, q3, q4, q5, q6⟩
      obtain ⟨t, ht, -⟩ := State.frames_cons hr
      show ({ U with heap := s₂.heap, slotsUsed := s₂.slotsUsed } : State) = { U.setFrames U.frames with heap := s₂.heap, slotsUsed := s₂.slotsUsed }
      rw [State.setFrames_self ht]
    subst hg
    refine Or.inl ⟨v, ⟨(({ U with heap := s₂.heap, slotsUsed := s₂.slotsUsed } : State).setVm s₂.vm), Ls ++ L, c0 + mc, s0 + ms⟩,
      ⟨X.admits, X.cas, X.clock, X.frames, X.room, X.hears, X.method, X.code, (X.here.setHeapUsed s₂.heap s₂.slotsUsed).setVm hW'.alike, X.tail, State.WarmedH.trans X.warmed hW', X.limits, X.bytes, X.same.trans (hsame.setVm s.vm)⟩,
      ⟨g, mk, s₂, L, rfl, rfl, hqc, rfl, hL, rfl, rfl⟩, ?_⟩
    show Steps p.tables e below _ ((({ U with heap := s₂.heap, slotsUsed := s₂.slotsUsed } : State).setVm s₂.vm).setTop { g with pc := g.pc + len₂, stack := v.toList ++ g.stack })
    rw [← hs₂]
    exact hsteps
  · obtain ⟨e2, q2, q3, q4, q5, q6⟩ := id hsm
    have e3 : s₂ = ({ (U.calling g mk a).setFrames s₂.frames with heap := s₂.heap, slotsUsed := s₂.slotsUsed } : State).setVm s₂.vm := by
      have : s₂ = ({ s₂ with vm := (U.calling g mk a).vm } : State).setVm s₂.vm := rfl
      rw [e2] at this
      exact this
    have hf₂ : s₂.frames = .throwing q :: .java g :: U.frames.tail := hend
    have hW' : U.WarmedH s₂.vm := hW₂
    have hs₂ : s₂ = ((({ U with heap := s₂.heap, slotsUsed := s₂.slotsUsed } : State).setVm s₂.vm).setTop g).pushFrame (.throwing q) := by
      refine e3.trans ?_
      rw [hf₂, State.calling_eq h.top, State.setFrames_setFrames, State.pushFrame, State.frames_setTop _ hr', State.setTop_of_frames _ hr', State.setFrames_setFrames, hr]
      rfl
    have hsame : U.sameButNew ({ U with heap := s₂.heap, slotsUsed := s₂.slotsUsed } : State) L mc ms := by
      refine ⟨?_, q2, q3, q4, q5, q6⟩
      obtain ⟨t, ht, -⟩ := State.frames_cons hr
      show ({ U with heap := s₂.heap, slotsUsed := s₂.slotsUsed } : State) = { U.setFrames U.frames with heap := s₂.heap, slotsUsed := s₂.slotsUsed }
      rw [State.setFrames_self ht]
    subst hg
    refine Or.inr ⟨q, ⟨(({ U with heap := s₂.heap, slotsUsed := s₂.slotsUsed } : State).setVm s₂.vm), Ls ++ L, c0 + mc, s0 + ms⟩,
      ⟨X.admits, X.cas, X.clock, X.frames, X.room, X.hears, X.method, X.code, (X.here.setHeapUsed s₂.heap s₂.slotsUsed).setVm hW'.alike, X.tail, State.WarmedH.trans X.warmed hW', X.limits, X.bytes, X.same.trans (hsame.setVm s.vm)⟩,
      ⟨g, mk, s₂, L, E, ce, rfl, rfl, hx, hce, hcv, hcl, rfl, hL, rfl, rfl⟩, ?_⟩
    show Steps p.tables e below _ (((({ U with heap := s₂.heap, slotsUsed := s₂.slotsUsed } : State).setVm s₂.vm).setTop g).pushFrame (.throwing q))
    rw [← hs₂]
    exact hsteps
end
variable {p : Program} {l : Launch} {e : Env} {R : Room} {s : State} {m : MethodId} {args : Array Value} {below : List Frame} {meth : Method} {c : Code} {T : State} {H : Heap} {locs : List Loc} {cells slots : Nat}
theorem vx_callVX (X : Stand p l e R s m args below meth c T locs cells slots) (hexec : p.tables.exec = Jvm.exec) {own C : String} {index : Nat} {y : MethodName} {bytes : ByteArray} {maxL : Nat} {ret : Option FieldType} {hh : List (Nat × Nat × Nat × Nat)}
    (hown : s.vm.findClass own = some m.cls) (hlink : (Cond.methodLink own index y).before args s = true) (hinst : (Cond.instanceMethod y).before args s = true) (hsel : (Cond.selects C y y).before args s = true)
    (hcode : (Cond.codeWith y bytes maxL ret hh).before args s = true) (hy : y.cls ≠ "java/lang/invoke/MethodHandle" ∧ y.cls ≠ "java/lang/invoke/VarHandle")
    {W9 : Nat} {Pre : Pt → Array Value → Prop} {Post : Pt → Array Value → Option Value → Pt → Prop} {PostX : Pt → Array Value → Addr → Pt → Prop} (hK : vx_Back l R p e below s args y 3 W9 Pre Post PostX)
    {b : Addr} {cellB : Cell} (hcell : T.heap[b]? = some cellB) (hobj : cellB.vm.isStatics = false) (hcls : s.vm.findClass C = some cellB.cls)
    {g : JFrame} (hg : g.method = m) (hsize : g.locals.size = c.maxLocals) {argsL rest : List Value} (hlen : ∀ sig, parseMethodDescriptor y.desc = some sig → argsL.length = sig.parameters.length)
    (hstack : g.stack = argsL.reverse ++ .ref b :: rest) (hW : 2 * g.monitorRoom + (rest.map fun v => v.category).sum ≤ W9) (hdg : decode c.code g.pc = .ok (.invokevirtual index, 3))
    (hpre : ∀ vm₁, s.WarmedH vm₁ → Pre ⟨T.setVm vm₁, locs, cells, slots⟩ (Value.ref b :: argsL).toArray) :
    (∃ (v : Option Value) (vm₁ : Vm) (B : Pt), s.WarmedH vm₁ ∧ Stand p l e R s m args below meth c B.U B.locs B.cells B.slots ∧ Post ⟨T.setVm vm₁, locs, cells, slots⟩ (Value.ref b :: argsL).toArray v B ∧
      ∀ target, Steps p.tables e below (B.U.setTop { g with pc := g.pc + 3, stack := v.toList ++ rest }) target → Steps p.tables e below (T.setTop g) target) ∨
    (∃ (q : Addr) (vm₁ : Vm) (B : Pt), s.WarmedH vm₁ ∧ Stand p l e R s m args below meth c B.U B.locs B.cells B.slots ∧ PostX ⟨T.setVm vm₁, locs, cells, slots⟩ (Value.ref b :: argsL).toArray q B ∧
      Steps p.tables e below (T.setTop g) ((B.U.setTop { g with stack := rest }).pushFrame (.throwing q))) := by
  obtain ⟨mk, methM, hnamed, hmethM, hstM, habM⟩ := Cond.instanceMethod_spec hinst
  obtain ⟨m8, methM', cM, hn8, hmethM', -, -, -, -, -, -, hsigM⟩ := Cond.codeWith_spec hcode
  cases Option.some.inj (hn8.symm.trans hnamed)
  cases hmethM.symm.trans hmethM'
  obtain ⟨c2, r2, m2, q1, q2, q3, q4, kP, hkP, hkPi⟩ := Cond.selects_spec hsel
  cases hcls.symm.trans q1
  cases (State.methodFound?_of_named hnamed hy).symm.trans q2
  cases hnamed.symm.trans q3
  have hselP : selectMethod e.platform s.vm cellB.cls mk = .method mk := by rw [Launch.admits_selectMethod X.admits]; exact q4
  obtain ⟨vm₁, X₁, hstep₁⟩ := X.invokevirtual hexec hown hlink hnamed hmethM hstM hkP hkPi hy (a := b) (cell := cellB) hcell
    (fun z h => by rw [h] at hobj; cases hobj) hselP hmethM habM hkP hkPi (g := g) hg (argsL := argsL) (rest := rest) (hlen _ hsigM) hstack hdg
  rcases hK m meth c ⟨T.setVm vm₁, locs, cells, slots⟩ { g with stack := rest } (.invokevirtual index) mk (Value.ref b :: argsL).toArray X₁ hg hsize hdg hW (X₁.named hnamed) (hpre vm₁ X₁.warmed) with ⟨v, B, X', hpost, hsteps⟩ | ⟨q, B, X', hpost, hsteps⟩
  · exact Or.inl ⟨v, vm₁, B, X₁.warmed, X', hpost, fun target h => hstep₁ _ fun acts => by rw [doInvoke_state]; exact hsteps.trans h⟩
  · exact Or.inr ⟨q, vm₁, B, X₁.warmed, X', hpost, hstep₁ _ fun acts => by rw [doInvoke_state]; exact hsteps⟩
theorem vx_callSX (X : Stand p l e R s m args below meth c T locs cells slots) (hexec : p.tables.exec = Jvm.exec) {own : String} {index : Nat} {y : MethodName} {bytes : ByteArray} {maxL : Nat} {ret : Option FieldType} {hh : List (Nat × Nat × Nat × Nat)}
    (hown : s.vm.findClass own = some m.cls) (hlink : (Cond.methodLink own index y).before args s = true) (hstat : (Cond.static y).before args s = true) (hinit : (Cond.initialized y.cls).before args s = true)
    (hcode : (Cond.codeWith y bytes maxL ret hh).before args s = true) (hy : y.cls ≠ "java/lang/invoke/MethodHandle" ∧ y.cls ≠ "java/lang/invoke/VarHandle")
    {W9 : Nat} {Pre : Pt → Array Value → Prop} {Post : Pt → Array Value → Option Value → Pt → Prop} {PostX : Pt → Array Value → Addr → Pt → Prop} (hK : vx_Back l R p e below s args y 3 W9 Pre Post PostX)
    {g : JFrame} (hg : g.method = m) (hsize : g.locals.size = c.maxLocals) {argsL rest : List Value} (hlen : ∀ sig, parseMethodDescriptor y.desc = some sig → argsL.length = sig.parameters.length)
    (hstack : g.stack = argsL.reverse ++ rest) (hW : 2 * g.monitorRoom + (rest.map fun v => v.category).sum ≤ W9) (hdg : decode c.code g.pc = .ok (.invokestatic index, 3))
    (hpre : ∀ vm₁, s.WarmedH vm₁ → Pre ⟨T.setVm vm₁, locs, cells, slots⟩ argsL.toArray) :
    (∃ (v : Option Value) (vm₁ : Vm) (B : Pt), s.WarmedH vm₁ ∧ Stand p l e R s m args below meth c B.U B.locs B.cells B.slots ∧ Post ⟨T.setVm vm₁, locs, cells, slots⟩ argsL.toArray v B ∧
      ∀ target, Steps p.tables e below (B.U.setTop { g with pc := g.pc + 3, stack := v.toList ++ rest }) target → Steps p.tables e below (T.setTop g) target) ∨
    (∃ (q : Addr) (vm₁ : Vm) (B : Pt), s.WarmedH vm₁ ∧ Stand p l e R s m args below meth c B.U B.locs B.cells B.slots ∧ PostX ⟨T.setVm vm₁, locs, cells, slots⟩ argsL.toArray q B ∧
      Steps p.tables e below (T.setTop g) ((B.U.setTop { g with stack := rest }).pushFrame (.throwing q))) := by
  obtain ⟨mk, methM, cM, hnamed, hmethM, -, -, -, -, -, -, hsigM⟩ := Cond.codeWith_spec hcode
  have hstatic : methM.isStatic = true := Cond.static_spec hnamed hmethM hstat
  obtain ⟨kP, hkP, -⟩ := className_of_methodNamed hnamed
  have hinitP : kP.init = .initialized := Cond.initialized_spec (findClass_of_methodNamed hnamed) hkP hinit
  obtain ⟨vm₁, X₁, hstep₁⟩ := X.invokestatic hexec hown hlink hnamed hmethM hstatic hkP hinitP hy (g := g) hg (argsL := argsL) (rest := rest) (hlen _ hsigM) hstack hdg
  rcases hK m meth c ⟨T.setVm vm₁, locs, cells, slots⟩ { g with stack := rest } (.invokestatic index) mk argsL.toArray X₁ hg hsize hdg hW (X₁.named hnamed) (hpre vm₁ X₁.warmed) with ⟨v, B, X', hpost, hsteps⟩ | ⟨q, B, X', hpost, hsteps⟩
  · exact Or.inl ⟨v, vm₁, B, X₁.warmed, X', hpost, fun target h => hstep₁ _ fun acts => by rw [doInvoke_state]; exact hsteps.trans h⟩
  · exact Or.inr ⟨q, vm₁, B, X₁.warmed, X', hpost, hstep₁ _ fun acts => by rw [doInvoke_state]; exact hsteps⟩
theorem vx_callVW (X : Stand p l e R s m args below meth c T locs cells slots) (hexec : p.tables.exec = Jvm.exec) {own C : String} {index : Nat} {y : MethodName} {bytes : ByteArray} {maxL : Nat} {ret : Option FieldType} {hh : List (Nat × Nat × Nat × Nat)}
    (hown : s.vm.findClass own = some m.cls) (hlink : (Cond.methodLink own index y).before args s = true) (hinst : (Cond.instanceMethod y).before args s = true) (hsel : (Cond.selects C y y).before args s = true)
    (hcode : (Cond.codeWith y bytes maxL ret hh).before args s = true) (hy : y.cls ≠ "java/lang/invoke/MethodHandle" ∧ y.cls ≠ "java/lang/invoke/VarHandle")
    {W9 : Nat} {Pre : Pt → Array Value → Prop} {Post : Pt → Array Value → Option Value → Pt → Prop} (hK : Back l R p e below s args y 3 W9 Pre Post)
    {b : Addr} {cellB : Cell} (hcell : T.heap[b]? = some cellB) (hobj : cellB.vm.isStatics = false) (hcls : s.vm.findClass C = some cellB.cls)
    {g : JFrame} (hg : g.method = m) (hsize : g.locals.size = c.maxLocals) {argsL rest : List Value} (hlen : ∀ sig, parseMethodDescriptor y.desc = some sig → argsL.length = sig.parameters.length)
    (hstack : g.stack = argsL.reverse ++ .ref b :: rest) (hW : 2 * g.monitorRoom + (rest.map fun v => v.category).sum ≤ W9) (hdg : decode c.code g.pc = .ok (.invokevirtual index, 3))
    (hpre : ∀ vm₁, s.WarmedH vm₁ → Pre ⟨T.setVm vm₁, locs, cells, slots⟩ (Value.ref b :: argsL).toArray) :
    ∃ (v : Option Value) (vm₁ : Vm) (B : Pt), s.WarmedH vm₁ ∧ Stand p l e R s m args below meth c B.U B.locs B.cells B.slots ∧ Post ⟨T.setVm vm₁, locs, cells, slots⟩ (Value.ref b :: argsL).toArray v B ∧
      ∀ target, Steps p.tables e below (B.U.setTop { g with pc := g.pc + 3, stack := v.toList ++ rest }) target → Steps p.tables e below (T.setTop g) target := by
  obtain ⟨mk, methM, hnamed, hmethM, hstM, habM⟩ := Cond.instanceMethod_spec hinst
  obtain ⟨m8, methM', cM, hn8, hmethM', -, -, -, -, -, -, hsigM⟩ := Cond.codeWith_spec hcode
  cases Option.some.inj (hn8.symm.trans hnamed)
  cases hmethM.symm.trans hmethM'
  obtain ⟨c2, r2, m2, q1, q2, q3, q4, kP, hkP, hkPi⟩ := Cond.selects_spec hsel
  cases hcls.symm.trans q1
  cases (State.methodFound?_of_named hnamed hy).symm.trans q2
  cases hnamed.symm.trans q3
  have hselP : selectMethod e.platform s.vm cellB.cls mk = .method mk := by rw [Launch.admits_selectMethod X.admits]; exact q4
  obtain ⟨vm₁, X₁, hstep₁⟩ := X.invokevirtual hexec hown hlink hnamed hmethM hstM hkP hkPi hy (a := b) (cell := cellB) hcell
    (fun z h => by rw [h] at hobj; cases hobj) hselP hmethM habM hkP hkPi (g := g) hg (argsL := argsL) (rest := rest) (hlen _ hsigM) hstack hdg
  obtain ⟨v, B, X', hpost, hsteps⟩ := hK m meth c ⟨T.setVm vm₁, locs, cells, slots⟩ { g with stack := rest } (.invokevirtual index) mk (Value.ref b :: argsL).toArray X₁ hg hsize hdg hW (X₁.named hnamed) (hpre vm₁ X₁.warmed)
  exact ⟨v, vm₁, B, X₁.warmed, X', hpost, fun target h => hstep₁ _ fun acts => by rw [doInvoke_state]; exact hsteps.trans h⟩
abbrev vx_CVW (R : Room) (s : State) (args : Array Value) (own C : String) (index : Nat) (y : MethodName) (bytes : ByteArray) (maxL : Nat) (ret : Option FieldType) (hh : List (Nat × Nat × Nat × Nat)) (ws : List Cond) (rm : Room) (mc ms n : Nat) : Prop :=
  (rm.cells = mc ∧ rm.slots = ms ∧ rm.frames + 1 ≤ R.frames ∧ 8 + (maxL + 11) + rm.locals ≤ R.locals ∧ (∀ w ∈ ws, ∀ (a' : Array Value) (U : State), s.WarmedH U.vm → w.before a' U = true) ∧ Cond.codeWith y bytes maxL ret hh ∈ ws) ∧
  (Cond.codeWith y bytes maxL ret hh).before args s = true ∧ (Cond.initialized y.cls).before args s = true ∧ (y.cls ≠ "java/lang/invoke/MethodHandle" ∧ y.cls ≠ "java/lang/invoke/VarHandle") ∧
  (∀ sig, parseMethodDescriptor y.desc = some sig → n = sig.parameters.length) ∧ (Cond.methodLink own index y).before args s = true ∧ (Cond.instanceMethod y).before args s = true ∧ (Cond.selects C y y).before args s = true
theorem vx_cwVW {own C : String} {index maxL mc ms : Nat} {y : MethodName} {bytes : ByteArray} {ret : Option FieldType} {hh : List (Nat × Nat × Nat × Nat)} {Ts ws ws' : List Cond} {rm : Room} (n : Nat) (ht : ∀ w ∈ Ts, w.before args s = true) (hT : GoodIn Ts (wsV own index C y ws)) (hw : ws = Cond.codeWith y bytes maxL ret hh :: ws') (hrc : rm.cells = mc) (hrs : rm.slots = ms)
    (hd : y.cls = C ∧ y.cls ≠ "java/lang/invoke/MethodHandle" ∧ y.cls ≠ "java/lang/invoke/VarHandle" ∧ (parseMethodDescriptor y.desc).map (fun d => d.parameters.length) = some n) (hR : rm.frames + 1 ≤ R.frames ∧ 8 + (maxL + 11) + rm.locals ≤ R.locals) :
    vx_CVW R s args own C index y bytes maxL ret hh ws rm mc ms n := by
  obtain ⟨hC, hd⟩ := hd
  subst hC
  have ok : ∀ w ∈ wsV own index y.cls y ws, w.before args s = true := fun w h => ht w (hT w h).1
  have hG : GoodIn Ts ws := fun w h => hT w (by unfold wsV; exact List.mem_append_right _ h)
  have hc : Cond.codeWith y bytes maxL ret hh ∈ ws := by rw [hw]; exact List.mem_cons_self
  refine ⟨⟨hrc, hrs, hR.1, hR.2, pay_in ht hG, hc⟩, ht _ (hG _ hc).1, ok _ (by simp [wsV]), ⟨hd.1, hd.2.1⟩, fun sig h => ?_, ok _ (by simp [wsV]), ok _ (by simp [wsV]), ok _ (by simp [wsV])⟩
  have h2 := hd.2.2
  rw [h] at h2
  exact (Option.some.inj h2).symm
theorem vx_runVW {y : MethodName} {bytes cc : ByteArray} {maxL nL mc ms n index : Nat} {ret : Option FieldType} {hh : List (Nat × Nat × Nat × Nat)} {ws : List Cond} {rm : Room} {Pc : Array Value → State → Prop} {Qc : Array Value → State → Outcome → State → Prop} {free : Addr → Prop} {Ts : List Cond} {own C : String} {b : Addr} {As rest : List Value} {g : JFrame}
    (S : CallFix p m c cc nL s args Ts own) (hM : Met l y ws rm Pc Qc mc ms free) (cw : vx_CVW R s args own C index y bytes maxL ret hh ws rm mc ms n) (hp : PreV s H C b Pc As)
    (hg : g.method = m) (hn : As.length = n) (hsize : g.locals.size = nL) (hstack : g.stack = As.reverse ++ .ref b :: rest) (hW : 2 * g.monitorRoom + (rest.map fun v => v.category).sum ≤ 8) (hdg : decode cc g.pc = .ok (.invokevirtual index, 3)) (hf : cells + mc ≤ R.cells ∧ slots + ms ≤ R.slots) :
    va_Run p l e R s m args below meth c H locs cells slots mc ms g rest (Qc (Value.ref b :: As).toArray) free := by
  obtain ⟨⟨hrc, hrs, hfr, hlo, hws, hcw⟩, hcode, hini, hy, hlen, hl, hin, hse⟩ := cw
  have hK : Back l R p e below s args y 3 8 (PreOf R mc ms Pc) (PostOf Qc mc ms free) := va_backW (hh := hh) (bytes := bytes) (maxL := maxL) (ret := ret) hM hp.1 hrc hrs hfr hlo hws hcw (fun a' U hW => word_at hW (Or.inl (by first | rfl | simp [Cond.onTables, Cond.keeps, Cond.steady])) hini)
  obtain ⟨hx, hb, hml, ho, -⟩ := S
  obtain ⟨-, ⟨cellB, hcB, hoB, hclB⟩, hPc⟩ := hp
  intro T hT X
  obtain ⟨v, vm₁, ⟨U', l2, c2, s2⟩, hW₁, X', ⟨g', mk, t, L, e1, e2, hq, h1, hL, h2, h3⟩, st⟩ := vx_callVW X hx (C := C) (hh := hh) (bytes := bytes) (maxL := maxL) (ret := ret) ho hl hin hse hcode hy hK (by rw [hT]; exact hcB) hoB hclB hg (hsize.trans hml.symm) (argsL := As) (rest := rest) (fun sig h => hn.trans (hlen sig h)) hstack hW (by rw [hb]; exact hdg)
    (fun vm₁ hW₁ => ⟨hf.1, hf.2, hPc (T.setVm vm₁) hT hW₁⟩)
  dsimp only [Pt.U, Pt.locs, Pt.cells, Pt.slots] at X' e1 e2 h1 h2 h3 st
  subst h1; subst h2; subst h3
  exact ⟨v, (T.setVm vm₁).calling g' mk (Value.ref b :: As).toArray, t, U', L, hT, X', hL, e1, e2, hq, st⟩
section
variable {y : MethodName} {bytes cc : ByteArray} {maxL nL mc ms n index : Nat} {ret : Option FieldType} {ws : List Cond} {rm : Room} {Pc : Array Value → State → Prop} {Qc : Array Value → State → Outcome → State → Prop} {XC : String → State → State → Prop} {free : Addr → Prop} {Ts : List Cond} {own C : String} {b : Addr} {As rest : List Value} {g : JFrame}
theorem vx_runVX {hh : List (Nat × Nat × Nat × Nat)} (S : CallFix p m c cc nL s args Ts own) (hM : vx_Met l y ws rm Pc Qc XC mc ms free) (cw : vx_CVW R s args own C index y bytes maxL ret hh ws rm mc ms n) (hp : PreV s H C b Pc As)
    (hg : g.method = m) (hn : As.length = n) (hsize : g.locals.size = nL) (hstack : g.stack = As.reverse ++ .ref b :: rest) (hW : 2 * g.monitorRoom + (rest.map fun v => v.category).sum ≤ 8) (hdg : decode cc g.pc = .ok (.invokevirtual index, 3)) (hf : cells + mc ≤ R.cells ∧ slots + ms ≤ R.slots) :
    vx_Run p l e R s m args below meth c H locs cells slots mc ms g rest (Qc (Value.ref b :: As).toArray) XC free := by
  obtain ⟨⟨hrc, hrs, hfr, hlo, hws, hcw⟩, hcode, hini, hy, hlen, hl, hin, hse⟩ := cw
  have hK : vx_Back l R p e below s args y 3 8 (PreOf R mc ms Pc) (PostOf Qc mc ms free) (vx_Post XC mc ms free) := vx_backW (hh := hh) (bytes := bytes) (maxL := maxL) (ret := ret) hM hp.1 hrc hrs hfr hlo hws hcw (fun a' U hW => word_at hW (Or.inl (by first | rfl | simp [Cond.onTables, Cond.keeps, Cond.steady])) hini)
  obtain ⟨hx, hb, hml, ho, -⟩ := S
  obtain ⟨-, ⟨cellB, hcB, hoB, hclB⟩, hPc⟩ := hp
  intro T hT X
  rcases vx_callVX X hx (C := C) (hh := hh) (bytes := bytes) (maxL := maxL) (ret := ret) ho hl hin hse hcode hy hK (by rw [hT]; exact hcB) hoB hclB hg (hsize.trans hml.symm) (argsL := As) (rest := rest) (fun sig h => hn.trans (hlen sig h)) hstack hW (by rw [hb]; exact hdg)
    (fun vm₁ hW₁ => ⟨hf.1, hf.2, hPc (T.setVm vm₁) hT hW₁⟩) with ⟨v, vm₁, ⟨U', l2, c2, s2⟩, hW₁, X', ⟨g', mk, t, L, e1, e2, hq, h1, hL, h2, h3⟩, st⟩ | ⟨q, vm₁, ⟨U', l2, c2, s2⟩, hW₁, X', ⟨g', mk, t, L, E, ce, e1, e2, hq, hce, hcv, hcl, h1, hL, h2, h3⟩, st⟩
  · dsimp only [Pt.U, Pt.locs, Pt.cells, Pt.slots] at X' e1 e2 h1 h2 h3 st
    subst h1; subst h2; subst h3
    exact Or.inl ⟨v, (T.setVm vm₁).calling g' mk (Value.ref b :: As).toArray, t, U', L, hT, X', hL, e1, e2, hq, st⟩
  · dsimp only [Pt.U, Pt.locs, Pt.cells, Pt.slots] at X' e1 e2 h1 h2 h3 st hcl
    subst h1; subst h2; subst h3
    exact Or.inr ⟨q, (T.setVm vm₁).calling g' mk (Value.ref b :: As).toArray, t, U', L, E, ce, hT, X', hL, e1, e2, hq, hce, hcv, vx_cls hW₁ hcl, st⟩
theorem vx_runSX {hh : List (Nat × Nat × Nat × Nat)} (S : CallFix p m c cc nL s args Ts own) (hM : vx_Met l y ws rm Pc Qc XC mc ms free) (cw : vx_CSW R s args own index y bytes maxL ret hh ws rm mc ms n) (hp : PreS s H Pc As)
    (hg : g.method = m) (hn : As.length = n) (hsize : g.locals.size = nL) (hstack : g.stack = As.reverse ++ rest) (hW : 2 * g.monitorRoom + (rest.map fun v => v.category).sum ≤ 8) (hdg : decode cc g.pc = .ok (.invokestatic index, 3)) (hf : cells + mc ≤ R.cells ∧ slots + ms ≤ R.slots) :
    vx_Run p l e R s m args below meth c H locs cells slots mc ms g rest (Qc As.toArray) XC free := by
  obtain ⟨⟨hrc, hrs, hfr, hlo, hws, hcw⟩, hcode, hini, hy, hlen, hl, hstt⟩ := cw
  have hK : vx_Back l R p e below s args y 3 8 (PreOf R mc ms Pc) (PostOf Qc mc ms free) (vx_Post XC mc ms free) := vx_backW (hh := hh) (bytes := bytes) (maxL := maxL) (ret := ret) hM hp.1 hrc hrs hfr hlo hws hcw (fun a' U hW => word_at hW (Or.inl (by first | rfl | simp [Cond.onTables, Cond.keeps, Cond.steady])) hini)
  obtain ⟨hx, hb, hml, ho, -⟩ := S
  intro T hT X
  rcases vx_callSX X hx (hh := hh) (bytes := bytes) (maxL := maxL) (ret := ret) ho hl hstt hini hcode hy hK hg (hsize.trans hml.symm) (argsL := As) (rest := rest) (fun sig h => hn.trans (hlen sig h)) hstack hW (by rw [hb]; exact hdg)
    (fun vm₁ hW₁ => ⟨hf.1, hf.2, hp.2 (T.setVm vm₁) hT hW₁⟩) with ⟨v, vm₁, ⟨U', l2, c2, s2⟩, hW₁, X', ⟨g', mk, t, L, e1, e2, hq, h1, hL, h2, h3⟩, st⟩ | ⟨q, vm₁, ⟨U', l2, c2, s2⟩, hW₁, X', ⟨g', mk, t, L, E, ce, e1, e2, hq, hce, hcv, hcl, h1, hL, h2, h3⟩, st⟩
  · dsimp only [Pt.U, Pt.locs, Pt.cells, Pt.slots] at X' e1 e2 h1 h2 h3 st
    subst h1; subst h2; subst h3
    exact Or.inl ⟨v, (T.setVm vm₁).calling g' mk As.toArray, t, U', L, hT, X', hL, e1, e2, hq, st⟩
  · dsimp only [Pt.U, Pt.locs, Pt.cells, Pt.slots] at X' e1 e2 h1 h2 h3 st hcl
    subst h1; subst h2; subst h3
    exact Or.inr ⟨q, (T.setVm vm₁).calling g' mk As.toArray, t, U', L, E, ce, hT, X', hL, e1, e2, hq, hce, hcv, vx_cls hW₁ hcl, st⟩
end
end VXH
theorem vx_ofWH {l : Launch} {y : MethodName} {ws ws' : List Cond} {rm : Room} {Pc : Array Value → State → Prop} {Qc : Array Value → State → Outcome → State → Prop} {XC : String → State → State → Prop} {mc ms : Nat} {free : Addr → Prop} {cc : ByteArray} {maxL : Nat} {ret : Option FieldType} {hh : List (Nat × Nat × Nat × Nat)}
    (hy : plainName y.cls = true) (hw : ws = Cond.codeWith y cc maxL ret hh :: ws')
    (body : ∀ p e s m args below meth c s₁, BodyLoose p l y (headSpec ws rm) cc maxL ret e s m args below meth c s₁ → c.maxLocals = maxL → Pc args s →
      W p l e (headSpec ws rm).room s m args below meth c s.heap [] 0 0 (vx_MQ below Qc XC args s mc ms free) (entryFrame m args maxL)) : vx_Met l y ws rm Pc Qc XC mc ms free := by
  refine MetFree.of_bodyS (code := cc) (maxLocals := maxL) (ret := ret) hy ?_ ?_
  · intro args s m h hn
    obtain ⟨m9, meth, c, hn9, h1, h2, h3, h4, -, h5, h6, -⟩ := Cond.codeWith_spec (atoms_spec (ws := ws) h _ (by rw [hw]; exact List.mem_cons_self))
    cases hn.symm.trans hn9
    exact ⟨meth, c, h1, h2, h3, h4, h5, h6⟩
  · intro p e s m args below meth c s₁ B hml hP _
    have hh0 : s₁.heap = s.heap := by rw [B.state]; rfl
    obtain ⟨t, a1, o, b1, b2, b3⟩ := body p e s m args below meth c s₁ B hml hP s₁ hh0 (Stand.of_body B)
    exact ⟨t, o, a1, b1, b2, b3⟩
/-! ===== END ===== -/
end
section
/-! ===== BEGIN printed: names, fields, word lists, decode rows ===== -/
def RX0 : String := "CellarClub$Club"
def TX0 : u_T := fun k => match k with
  | 0 => ("CellarClub$Club", "members", "I", false)
  | 1 => ("CellarClub$Club", "wines", "I", false)
  | 2 => ("CellarClub$Club", "points", "[I", true)
  | 3 => ("CellarClub$Club", "owed", "[I", true)
  | 4 => ("CellarClub$Club", "price", "[I", true)
  | 5 => ("CellarClub$Club", "bought", "[I", true)
  | 6 => ("CellarClub$Club", "reserve", "[I", true)
  | 7 => ("CellarClub$Club", "stage", "[I", true)
  | 8 => ("CellarClub$Club", "corked", "[I", true)
  | 9 => ("CellarClub$Club", "ordered", "LCellarClub$Table;", true)
  | 10 => ("CellarClub$Club", "allotted", "LCellarClub$Table;", true)
  | 11 => ("CellarClub$Club", "cellared", "LCellarClub$Table;", true)
  | 12 => ("CellarClub$Club", "drunk", "LCellarClub$Table;", true)
  | _ => ("CellarClub$Club", "rack", "LCellarClub$Rack;", true)
def tyX0 : Nat → FieldType := fun k => match k with
  | 0 => .int
  | 1 => .int
  | 2 => .array .int
  | 3 => .array .int
  | 4 => .array .int
  | 5 => .array .int
  | 6 => .array .int
  | 7 => .array .int
  | 8 => .array .int
  | 9 => .object "CellarClub$Table"
  | 10 => .object "CellarClub$Table"
  | 11 => .object "CellarClub$Table"
  | 12 => .object "CellarClub$Table"
  | _ => .object "CellarClub$Rack"
theorem nmX0 : ∀ a, a < 14 → ∀ b, b < 14 → a ≠ b → (TX0 a).2.1 ≠ (TX0 b).2.1 := by decide +kernel
theorem tyX0_ok : ∀ k, k < 14 → parseFieldDescriptor (TX0 k).2.2.1 = some (tyX0 k) := by decide +kernel
abbrev cX0_init : ByteArray := prog_2_method_1_code
def yX0_init : MethodName := ⟨RX0, "<init>", "()V"⟩
abbrev cX0_knowsMember : ByteArray := prog_2_method_2_code
def yX0_knowsMember : MethodName := ⟨RX0, "knowsMember", "(I)Z"⟩
abbrev cX0_knowsWine : ByteArray := prog_2_method_3_code
def yX0_knowsWine : MethodName := ⟨RX0, "knowsWine", "(I)Z"⟩
abbrev cX0_knowsBoth : ByteArray := prog_2_method_4_code
def yX0_knowsBoth : MethodName := ⟨RX0, "knowsBoth", "(II)Z"⟩
abbrev cX0_factOfAll : ByteArray := prog_2_method_5_code
def yX0_factOfAll : MethodName := ⟨RX0, "factOfAll", "(I)I"⟩
abbrev cX0_factOfMember : ByteArray := prog_2_method_6_code
def yX0_factOfMember : MethodName := ⟨RX0, "factOfMember", "(II)I"⟩
abbrev cX0_factOfWine : ByteArray := prog_2_method_7_code
def yX0_factOfWine : MethodName := ⟨RX0, "factOfWine", "(II)I"⟩
abbrev cX0_factOfBoth : ByteArray := prog_2_method_8_code
def yX0_factOfBoth : MethodName := ⟨RX0, "factOfBoth", "(III)I"⟩
abbrev cX0_memberFault : ByteArray := prog_2_method_9_code
def yX0_memberFault : MethodName := ⟨RX0, "memberFault", "(I)I"⟩
abbrev cX0_enrol : ByteArray := prog_2_method_10_code
def yX0_enrol : MethodName := ⟨RX0, "enrol", "(I)I"⟩
abbrev cX0_wineFault : ByteArray := prog_2_method_11_code
def yX0_wineFault : MethodName := ⟨RX0, "wineFault", "(II)I"⟩
abbrev cX0_offer : ByteArray := prog_2_method_12_code
def yX0_offer : MethodName := ⟨RX0, "offer", "(II)I"⟩
abbrev cX0_orderFault : ByteArray := prog_2_method_13_code
def yX0_orderFault : MethodName := ⟨RX0, "orderFault", "(III)I"⟩
abbrev cX0_changeOrder : ByteArray := prog_2_method_14_code
def yX0_changeOrder : MethodName := ⟨RX0, "changeOrder", "(III)I"⟩
abbrev cX0_allocationFault : ByteArray := prog_2_method_15_code
def yX0_allocationFault : MethodName := ⟨RX0, "allocationFault", "(I)I"⟩
abbrev cX0_shareOut : ByteArray := prog_2_method_16_code
def yX0_shareOut : MethodName := ⟨RX0, "shareOut", "(I)I"⟩
abbrev cX0_nextToGet : ByteArray := prog_2_method_17_code
def yX0_nextToGet : MethodName := ⟨RX0, "nextToGet", "(I)I"⟩
abbrev cX0_comesBefore : ByteArray := prog_2_method_18_code
def yX0_comesBefore : MethodName := ⟨RX0, "comesBefore", "(III)Z"⟩
abbrev cX0_paidAhead : ByteArray := prog_2_method_19_code
def yX0_paidAhead : MethodName := ⟨RX0, "paidAhead", "(II)I"⟩
abbrev cX0_deliveryFault : ByteArray := prog_2_method_20_code
def yX0_deliveryFault : MethodName := ⟨RX0, "deliveryFault", "(I)I"⟩
abbrev cX0_bringIn : ByteArray := prog_2_method_21_code
def yX0_bringIn : MethodName := ⟨RX0, "bringIn", "(I)I"⟩
abbrev cX0_drinkFault : ByteArray := prog_2_method_22_code
def yX0_drinkFault : MethodName := ⟨RX0, "drinkFault", "(III)I"⟩
abbrev cX0_drinkUp : ByteArray := prog_2_method_23_code
def yX0_drinkUp : MethodName := ⟨RX0, "drinkUp", "(III)I"⟩
abbrev cX0_giftFault : ByteArray := prog_2_method_24_code
def yX0_giftFault : MethodName := ⟨RX0, "giftFault", "(IIII)I"⟩
abbrev cX0_handOver : ByteArray := prog_2_method_25_code
def yX0_handOver : MethodName := ⟨RX0, "handOver", "(IIII)I"⟩
abbrev cX0_corkFault : ByteArray := prog_2_method_26_code
def yX0_corkFault : MethodName := ⟨RX0, "corkFault", "(II)I"⟩
abbrev cX0_replaceCorked : ByteArray := prog_2_method_27_code
def yX0_replaceCorked : MethodName := ⟨RX0, "replaceCorked", "(II)I"⟩
abbrev cX0_settle : ByteArray := prog_2_method_28_code
def yX0_settle : MethodName := ⟨RX0, "settle", "(I)I"⟩
abbrev cX0_copyFrom : ByteArray := prog_2_method_29_code
def yX0_copyFrom : MethodName := ⟨RX0, "copyFrom", "(LCellarClub$Club;)V"⟩
def RX1 : String := "CellarClub$History"
def TX1 : u_T := fun k => match k with
  | 0 => ("CellarClub$History", "states", "[LCellarClub$Club;", true)
  | _ => ("CellarClub$History", "count", "I", false)
def tyX1 : Nat → FieldType := fun k => match k with
  | 0 => .array (.object "CellarClub$Club")
  | _ => .int
theorem nmX1 : ∀ a, a < 2 → ∀ b, b < 2 → a ≠ b → (TX1 a).2.1 ≠ (TX1 b).2.1 := by decide +kernel
theorem tyX1_ok : ∀ k, k < 2 → parseFieldDescriptor (TX1 k).2.2.1 = some (tyX1 k) := by decide +kernel
abbrev cX1_init : ByteArray := prog_3_method_1_code
def yX1_init : MethodName := ⟨RX1, "<init>", "()V"⟩
abbrev cX1_remember : ByteArray := prog_3_method_2_code
def yX1_remember : MethodName := ⟨RX1, "remember", "(LCellarClub$Club;)V"⟩
abbrev cX1_forgetOldest : ByteArray := prog_3_method_3_code
def yX1_forgetOldest : MethodName := ⟨RX1, "forgetOldest", "()V"⟩
abbrev cX1_takeBack : ByteArray := prog_3_method_4_code
def yX1_takeBack : MethodName := ⟨RX1, "takeBack", "(LCellarClub$Club;)I"⟩
abbrev cX1_forgetAll : ByteArray := prog_3_method_5_code
def yX1_forgetAll : MethodName := ⟨RX1, "forgetAll", "()V"⟩
def RX2 : String := "CellarClub$Packing"
def TX2 : u_T := fun k => match k with
  | 0 => ("CellarClub$Packing", "room", "[I", true)
  | _ => ("CellarClub$Packing", "filled", "[Z", true)
def tyX2 : Nat → FieldType := fun k => match k with
  | 0 => .array .int
  | _ => .array .boolean
theorem nmX2 : ∀ a, a < 2 → ∀ b, b < 2 → a ≠ b → (TX2 a).2.1 ≠ (TX2 b).2.1 := by decide +kernel
theorem tyX2_ok : ∀ k, k < 2 → parseFieldDescriptor (TX2 k).2.2.1 = some (tyX2 k) := by decide +kernel
abbrev cX2_init : ByteArray := prog_4_method_1_code
def yX2_init : MethodName := ⟨RX2, "<init>", "()V"⟩
abbrev cX2_fewest : ByteArray := prog_4_method_2_code
def yX2_fewest : MethodName := ⟨RX2, "fewest", "(LCellarClub$Club;)I"⟩
abbrev cX2_measure : ByteArray := prog_4_method_3_code
def yX2_measure : MethodName := ⟨RX2, "measure", "(LCellarClub$Rack;I)V"⟩
abbrev cX2_packWine : ByteArray := prog_4_method_4_code
def yX2_packWine : MethodName := ⟨RX2, "packWine", "(II)V"⟩
abbrev cX2_canPack : ByteArray := prog_4_method_5_code
def yX2_canPack : MethodName := ⟨RX2, "canPack", "(II)Z"⟩
def RX3 : String := "CellarClub$Rack"
def TX3 : u_T := fun k => match k with
  | 0 => ("CellarClub$Rack", "bins", "I", false)
  | 1 => ("CellarClub$Rack", "size", "[I", true)
  | 2 => ("CellarClub$Rack", "wineIn", "[I", true)
  | _ => ("CellarClub$Rack", "bottles", "[I", true)
def tyX3 : Nat → FieldType := fun k => match k with
  | 0 => .int
  | 1 => .array .int
  | 2 => .array .int
  | _ => .array .int
theorem nmX3 : ∀ a, a < 4 → ∀ b, b < 4 → a ≠ b → (TX3 a).2.1 ≠ (TX3 b).2.1 := by decide +kernel
theorem tyX3_ok : ∀ k, k < 4 → parseFieldDescriptor (TX3 k).2.2.1 = some (tyX3 k) := by decide +kernel
abbrev cX3_init : ByteArray := prog_5_method_1_code
def yX3_init : MethodName := ⟨RX3, "<init>", "()V"⟩
abbrev cX3_knows : ByteArray := prog_5_method_2_code
def yX3_knows : MethodName := ⟨RX3, "knows", "(I)Z"⟩
abbrev cX3_factOf : ByteArray := prog_5_method_3_code
def yX3_factOf : MethodName := ⟨RX3, "factOf", "(II)I"⟩
abbrev cX3_binFault : ByteArray := prog_5_method_4_code
def yX3_binFault : MethodName := ⟨RX3, "binFault", "(I)I"⟩
abbrev cX3_install : ByteArray := prog_5_method_5_code
def yX3_install : MethodName := ⟨RX3, "install", "(I)I"⟩
abbrev cX3_emptyBins : ByteArray := prog_5_method_6_code
def yX3_emptyBins : MethodName := ⟨RX3, "emptyBins", "()I"⟩
abbrev cX3_roomIn : ByteArray := prog_5_method_7_code
def yX3_roomIn : MethodName := ⟨RX3, "roomIn", "(I)I"⟩
abbrev cX3_roomInAll : ByteArray := prog_5_method_8_code
def yX3_roomInAll : MethodName := ⟨RX3, "roomInAll", "()I"⟩
abbrev cX3_takesWine : ByteArray := prog_5_method_9_code
def yX3_takesWine : MethodName := ⟨RX3, "takesWine", "(II)Z"⟩
abbrev cX3_roomForWine : ByteArray := prog_5_method_10_code
def yX3_roomForWine : MethodName := ⟨RX3, "roomForWine", "(I)I"⟩
abbrev cX3_lay : ByteArray := prog_5_method_11_code
def yX3_lay : MethodName := ⟨RX3, "lay", "(II)V"⟩
abbrev cX3_binToFillUp : ByteArray := prog_5_method_12_code
def yX3_binToFillUp : MethodName := ⟨RX3, "binToFillUp", "(I)I"⟩
abbrev cX3_emptyBinFor : ByteArray := prog_5_method_13_code
def yX3_emptyBinFor : MethodName := ⟨RX3, "emptyBinFor", "(I)I"⟩
abbrev cX3_suitsBetter : ByteArray := prog_5_method_14_code
def yX3_suitsBetter : MethodName := ⟨RX3, "suitsBetter", "(III)Z"⟩
abbrev cX3_take : ByteArray := prog_5_method_15_code
def yX3_take : MethodName := ⟨RX3, "take", "(II)V"⟩
abbrev cX3_binToTakeFrom : ByteArray := prog_5_method_16_code
def yX3_binToTakeFrom : MethodName := ⟨RX3, "binToTakeFrom", "(I)I"⟩
abbrev cX3_carryFault : ByteArray := prog_5_method_17_code
def yX3_carryFault : MethodName := ⟨RX3, "carryFault", "(III)I"⟩
abbrev cX3_carry : ByteArray := prog_5_method_18_code
def yX3_carry : MethodName := ⟨RX3, "carry", "(III)I"⟩
abbrev cX3_putInto : ByteArray := prog_5_method_19_code
def yX3_putInto : MethodName := ⟨RX3, "putInto", "(III)V"⟩
abbrev cX3_removeFrom : ByteArray := prog_5_method_20_code
def yX3_removeFrom : MethodName := ⟨RX3, "removeFrom", "(II)V"⟩
abbrev cX3_copyFrom : ByteArray := prog_5_method_21_code
def yX3_copyFrom : MethodName := ⟨RX3, "copyFrom", "(LCellarClub$Rack;)V"⟩
def RX4 : String := "CellarClub$Rehearsal"
def TX4 : u_T := fun k => match k with
  | _ => ("CellarClub$Rehearsal", "copy", "LCellarClub$Club;", true)
def tyX4 : Nat → FieldType := fun k => match k with
  | _ => .object "CellarClub$Club"
theorem nmX4 : ∀ a, a < 1 → ∀ b, b < 1 → a ≠ b → (TX4 a).2.1 ≠ (TX4 b).2.1 := by decide +kernel
theorem tyX4_ok : ∀ k, k < 1 → parseFieldDescriptor (TX4 k).2.2.1 = some (tyX4 k) := by decide +kernel
abbrev cX4_init : ByteArray := prog_6_method_1_code
def yX4_init : MethodName := ⟨RX4, "<init>", "()V"⟩
abbrev cX4_begin : ByteArray := prog_6_method_2_code
def yX4_begin : MethodName := ⟨RX4, "begin", "(LCellarClub$Club;)V"⟩
abbrev cX4_obeys : ByteArray := prog_6_method_3_code
def yX4_obeys : MethodName := ⟨RX4, "obeys", "(I)Z"⟩
abbrev cX4_spendEvening : ByteArray := prog_6_method_4_code
def yX4_spendEvening : MethodName := ⟨RX4, "spendEvening", "(I)V"⟩
abbrev cX4_orders : ByteArray := prog_6_method_5_code
def yX4_orders : MethodName := ⟨RX4, "orders", "(III)Z"⟩
abbrev cX4_allocates : ByteArray := prog_6_method_6_code
def yX4_allocates : MethodName := ⟨RX4, "allocates", "(I)Z"⟩
abbrev cX4_delivers : ByteArray := prog_6_method_7_code
def yX4_delivers : MethodName := ⟨RX4, "delivers", "(I)Z"⟩
abbrev cX4_drinks : ByteArray := prog_6_method_8_code
def yX4_drinks : MethodName := ⟨RX4, "drinks", "(III)Z"⟩
abbrev cX4_gives : ByteArray := prog_6_method_9_code
def yX4_gives : MethodName := ⟨RX4, "gives", "(IIII)Z"⟩
abbrev cX4_corks : ByteArray := prog_6_method_10_code
def yX4_corks : MethodName := ⟨RX4, "corks", "(II)Z"⟩
abbrev cX4_moves : ByteArray := prog_6_method_11_code
def yX4_moves : MethodName := ⟨RX4, "moves", "(III)Z"⟩
def RX5 : String := "CellarClub$Table"
def TX5 : u_T := fun k => match k with
  | _ => ("CellarClub$Table", "cells", "[I", true)
def tyX5 : Nat → FieldType := fun k => match k with
  | _ => .array .int
theorem nmX5 : ∀ a, a < 1 → ∀ b, b < 1 → a ≠ b → (TX5 a).2.1 ≠ (TX5 b).2.1 := by decide +kernel
theorem tyX5_ok : ∀ k, k < 1 → parseFieldDescriptor (TX5 k).2.2.1 = some (tyX5 k) := by decide +kernel
abbrev cX5_init : ByteArray := prog_7_method_1_code
def yX5_init : MethodName := ⟨RX5, "<init>", "()V"⟩
abbrev cX5_of : ByteArray := prog_7_method_2_code
def yX5_of : MethodName := ⟨RX5, "of", "(II)I"⟩
abbrev cX5_put : ByteArray := prog_7_method_3_code
def yX5_put : MethodName := ⟨RX5, "put", "(III)V"⟩
abbrev cX5_add : ByteArray := prog_7_method_4_code
def yX5_add : MethodName := ⟨RX5, "add", "(III)V"⟩
abbrev cX5_ofMember : ByteArray := prog_7_method_5_code
def yX5_ofMember : MethodName := ⟨RX5, "ofMember", "(I)I"⟩
abbrev cX5_ofWine : ByteArray := prog_7_method_6_code
def yX5_ofWine : MethodName := ⟨RX5, "ofWine", "(I)I"⟩
abbrev cX5_ofAll : ByteArray := prog_7_method_7_code
def yX5_ofAll : MethodName := ⟨RX5, "ofAll", "()I"⟩
abbrev cX5_copyFrom : ByteArray := prog_7_method_8_code
def yX5_copyFrom : MethodName := ⟨RX5, "copyFrom", "(LCellarClub$Table;)V"⟩
def RX6 : String := "CellarClub$Text"
def TX6 : u_T := fun k => match k with
  | 0 => ("CellarClub$Text", "signs", "[C", true)
  | 1 => ("CellarClub$Text", "length", "I", false)
  | 2 => ("CellarClub$Text", "at", "I", false)
  | 3 => ("CellarClub$Text", "told", "LCellarClub$Club;", true)
  | _ => ("CellarClub$Text", "nothing", "LCellarClub$Club;", true)
def tyX6 : Nat → FieldType := fun k => match k with
  | 0 => .array .char
  | 1 => .int
  | 2 => .int
  | 3 => .object "CellarClub$Club"
  | _ => .object "CellarClub$Club"
theorem nmX6 : ∀ a, a < 5 → ∀ b, b < 5 → a ≠ b → (TX6 a).2.1 ≠ (TX6 b).2.1 := by decide +kernel
theorem tyX6_ok : ∀ k, k < 5 → parseFieldDescriptor (TX6 k).2.2.1 = some (tyX6 k) := by decide +kernel
abbrev cX6_init : ByteArray := prog_8_method_1_code
def yX6_init : MethodName := ⟨RX6, "<init>", "()V"⟩
abbrev cX6_addingFault : ByteArray := prog_8_method_2_code
def yX6_addingFault : MethodName := ⟨RX6, "addingFault", "(I)I"⟩
abbrev cX6_add : ByteArray := prog_8_method_3_code
def yX6_add : MethodName := ⟨RX6, "add", "(C)I"⟩
abbrev cX6_wipe : ByteArray := prog_8_method_4_code
def yX6_wipe : MethodName := ⟨RX6, "wipe", "()I"⟩
abbrev cX6_read : ByteArray := prog_8_method_5_code
def yX6_read : MethodName := ⟨RX6, "read", "()I"⟩
abbrev cX6_readPart : ByteArray := prog_8_method_6_code
def yX6_readPart : MethodName := ⟨RX6, "readPart", "()Z"⟩
abbrev cX6_readMember : ByteArray := prog_8_method_7_code
def yX6_readMember : MethodName := ⟨RX6, "readMember", "()Z"⟩
abbrev cX6_readWine : ByteArray := prog_8_method_8_code
def yX6_readWine : MethodName := ⟨RX6, "readWine", "()Z"⟩
abbrev cX6_readBin : ByteArray := prog_8_method_9_code
def yX6_readBin : MethodName := ⟨RX6, "readBin", "()Z"⟩
abbrev cX6_readOrder : ByteArray := prog_8_method_10_code
def yX6_readOrder : MethodName := ⟨RX6, "readOrder", "()Z"⟩
abbrev cX6_readNumber : ByteArray := prog_8_method_11_code
def yX6_readNumber : MethodName := ⟨RX6, "readNumber", "(III)I"⟩
def RX7 : String := "CellarClub"
def TX7 : u_T := fun k => match k with
  | 0 => ("CellarClub", "club", "LCellarClub$Club;", true)
  | 1 => ("CellarClub", "text", "LCellarClub$Text;", true)
  | 2 => ("CellarClub", "history", "LCellarClub$History;", true)
  | 3 => ("CellarClub", "rehearsal", "LCellarClub$Rehearsal;", true)
  | 4 => ("CellarClub", "packing", "LCellarClub$Packing;", true)
  | 5 => ("CellarClub", "slots", "[LCellarClub$Club;", true)
  | _ => ("CellarClub", "slotFilled", "[Z", true)
def tyX7 : Nat → FieldType := fun k => match k with
  | 0 => .object "CellarClub$Club"
  | 1 => .object "CellarClub$Text"
  | 2 => .object "CellarClub$History"
  | 3 => .object "CellarClub$Rehearsal"
  | 4 => .object "CellarClub$Packing"
  | 5 => .array (.object "CellarClub$Club")
  | _ => .array .boolean
theorem nmX7 : ∀ a, a < 7 → ∀ b, b < 7 → a ≠ b → (TX7 a).2.1 ≠ (TX7 b).2.1 := by decide +kernel
theorem tyX7_ok : ∀ k, k < 7 → parseFieldDescriptor (TX7 k).2.2.1 = some (tyX7 k) := by decide +kernel
abbrev cX7_init : ByteArray := prog_1_method_1_code
def yX7_init : MethodName := ⟨RX7, "<init>", "()V"⟩
abbrev cX7_append : ByteArray := prog_1_method_2_code
def yX7_append : MethodName := ⟨RX7, "append", "(I)I"⟩
abbrev cX7_clearText : ByteArray := prog_1_method_3_code
def yX7_clearText : MethodName := ⟨RX7, "clearText", "()I"⟩
abbrev cX7_errorPosition : ByteArray := prog_1_method_4_code
def yX7_errorPosition : MethodName := ⟨RX7, "errorPosition", "()I"⟩
abbrev cX7_load : ByteArray := prog_1_method_5_code
def yX7_load : MethodName := ⟨RX7, "load", "()I"⟩
abbrev cX7_about : ByteArray := prog_1_method_6_code
def yX7_about : MethodName := ⟨RX7, "about", "(I)I"⟩
abbrev cX7_member : ByteArray := prog_1_method_7_code
def yX7_member : MethodName := ⟨RX7, "member", "(II)I"⟩
abbrev cX7_wine : ByteArray := prog_1_method_8_code
def yX7_wine : MethodName := ⟨RX7, "wine", "(II)I"⟩
abbrev cX7_bin : ByteArray := prog_1_method_9_code
def yX7_bin : MethodName := ⟨RX7, "bin", "(II)I"⟩
abbrev cX7_has : ByteArray := prog_1_method_10_code
def yX7_has : MethodName := ⟨RX7, "has", "(III)I"⟩
abbrev cX7_addMember : ByteArray := prog_1_method_11_code
def yX7_addMember : MethodName := ⟨RX7, "addMember", "(I)I"⟩
abbrev cX7_addWine : ByteArray := prog_1_method_12_code
def yX7_addWine : MethodName := ⟨RX7, "addWine", "(II)I"⟩
abbrev cX7_addBin : ByteArray := prog_1_method_13_code
def yX7_addBin : MethodName := ⟨RX7, "addBin", "(I)I"⟩
abbrev cX7_order : ByteArray := prog_1_method_14_code
def yX7_order : MethodName := ⟨RX7, "order", "(III)I"⟩
abbrev cX7_allocate : ByteArray := prog_1_method_15_code
def yX7_allocate : MethodName := ⟨RX7, "allocate", "(I)I"⟩
abbrev cX7_deliver : ByteArray := prog_1_method_16_code
def yX7_deliver : MethodName := ⟨RX7, "deliver", "(I)I"⟩
abbrev cX7_drink : ByteArray := prog_1_method_17_code
def yX7_drink : MethodName := ⟨RX7, "drink", "(III)I"⟩
abbrev cX7_give : ByteArray := prog_1_method_18_code
def yX7_give : MethodName := ⟨RX7, "give", "(IIII)I"⟩
abbrev cX7_cork : ByteArray := prog_1_method_19_code
def yX7_cork : MethodName := ⟨RX7, "cork", "(II)I"⟩
abbrev cX7_move : ByteArray := prog_1_method_20_code
def yX7_move : MethodName := ⟨RX7, "move", "(III)I"⟩
abbrev cX7_pay : ByteArray := prog_1_method_21_code
def yX7_pay : MethodName := ⟨RX7, "pay", "(I)I"⟩
abbrev cX7_undo : ByteArray := prog_1_method_22_code
def yX7_undo : MethodName := ⟨RX7, "undo", "()I"⟩
abbrev cX7_wouldGet : ByteArray := prog_1_method_23_code
def yX7_wouldGet : MethodName := ⟨RX7, "wouldGet", "(II)I"⟩
abbrev cX7_roomFor : ByteArray := prog_1_method_24_code
def yX7_roomFor : MethodName := ⟨RX7, "roomFor", "(I)I"⟩
abbrev cX7_fewestBins : ByteArray := prog_1_method_25_code
def yX7_fewestBins : MethodName := ⟨RX7, "fewestBins", "()I"⟩
abbrev cX7_shortest : ByteArray := prog_1_method_26_code
def yX7_shortest : MethodName := ⟨RX7, "shortest", "(I)I"⟩
abbrev cX7_runScript : ByteArray := prog_1_method_27_code
def yX7_runScript : MethodName := ⟨RX7, "runScript", "(IJ)I"⟩
abbrev cX7_simulate : ByteArray := prog_1_method_28_code
def yX7_simulate : MethodName := ⟨RX7, "simulate", "(JI)I"⟩
abbrev cX7_save : ByteArray := prog_1_method_29_code
def yX7_save : MethodName := ⟨RX7, "save", "(I)I"⟩
abbrev cX7_restore : ByteArray := prog_1_method_30_code
def yX7_restore : MethodName := ⟨RX7, "restore", "(I)I"⟩
abbrev cX7_check : ByteArray := prog_1_method_31_code
def yX7_check : MethodName := ⟨RX7, "check", "(I)V"⟩
abbrev cX7_rangeFault : ByteArray := prog_1_method_32_code
def yX7_rangeFault : MethodName := ⟨RX7, "rangeFault", "(III)I"⟩
abbrev cX7_isSlot : ByteArray := prog_1_method_33_code
def yX7_isSlot : MethodName := ⟨RX7, "isSlot", "(I)Z"⟩
abbrev cX7_restoreFault : ByteArray := prog_1_method_34_code
def yX7_restoreFault : MethodName := ⟨RX7, "restoreFault", "(I)I"⟩
abbrev cX7_scriptFault : ByteArray := prog_1_method_35_code
def yX7_scriptFault : MethodName := ⟨RX7, "scriptFault", "(IJ)I"⟩
abbrev cX7_groupAt : ByteArray := prog_1_method_36_code
def yX7_groupAt : MethodName := ⟨RX7, "groupAt", "(JI)I"⟩
abbrev cX7_sumOf : ByteArray := prog_1_method_37_code
def yX7_sumOf : MethodName := ⟨RX7, "sumOf", "([I)I"⟩
abbrev cX7_copyRow : ByteArray := prog_1_method_38_code
def yX7_copyRow : MethodName := ⟨RX7, "copyRow", "([I[I)V"⟩
def RX8 : String := "CellarClubModel"
def TX8 : u_T := fun k => match k with
  | 0 => ("CellarClubModel", "refusal", "I", false)
  | 1 => ("CellarClubModel", "script", "[I", true)
  | 2 => ("CellarClubModel", "scriptSize", "I", false)
  | 3 => ("CellarClubModel", "spot", "I", false)
  | 4 => ("CellarClubModel", "isGood", "Z", false)
  | 5 => ("CellarClubModel", "read", "[I", true)
  | 6 => ("CellarClubModel", "now", "[I", true)
  | 7 => ("CellarClubModel", "trial", "[I", true)
  | 8 => ("CellarClubModel", "diary", "[I", true)
  | 9 => ("CellarClubModel", "acts", "I", false)
  | 10 => ("CellarClubModel", "kept", "[I", true)
  | 11 => ("CellarClubModel", "isKept", "[Z", true)
  | 12 => ("CellarClubModel", "got", "[I", true)
  | 13 => ("CellarClubModel", "fewest", "[I", true)
  | _ => ("CellarClubModel", "next", "[I", true)
def tyX8 : Nat → FieldType := fun k => match k with
  | 0 => .int
  | 1 => .array .int
  | 2 => .int
  | 3 => .int
  | 4 => .boolean
  | 5 => .array .int
  | 6 => .array .int
  | 7 => .array .int
  | 8 => .array .int
  | 9 => .int
  | 10 => .array .int
  | 11 => .array .boolean
  | 12 => .array .int
  | 13 => .array .int
  | _ => .array .int
theorem nmX8 : ∀ a, a < 15 → ∀ b, b < 15 → a ≠ b → (TX8 a).2.1 ≠ (TX8 b).2.1 := by decide +kernel
theorem tyX8_ok : ∀ k, k < 15 → parseFieldDescriptor (TX8 k).2.2.1 = some (tyX8 k) := by decide +kernel
abbrev cX8_init : ByteArray := prog_10_method_1_code
def yX8_init : MethodName := ⟨RX8, "<init>", "()V"⟩
abbrev cX8_thrown : ByteArray := prog_10_method_2_code
def yX8_thrown : MethodName := ⟨RX8, "thrown", "()I"⟩
abbrev cX8_refused : ByteArray := prog_10_method_3_code
def yX8_refused : MethodName := ⟨RX8, "refused", "(I)Z"⟩
abbrev cX8_in : ByteArray := prog_10_method_4_code
def yX8_in : MethodName := ⟨RX8, "in", "(JJJ)Z"⟩
abbrev cX8_copy : ByteArray := prog_10_method_5_code
def yX8_copy : MethodName := ⟨RX8, "copy", "([II[III)V"⟩
abbrev cX8_tenTo : ByteArray := prog_10_method_6_code
def yX8_tenTo : MethodName := ⟨RX8, "tenTo", "(I)J"⟩
abbrev cX8_remember : ByteArray := prog_10_method_7_code
def yX8_remember : MethodName := ⟨RX8, "remember", "()V"⟩
abbrev cX8_begin : ByteArray := prog_10_method_8_code
def yX8_begin : MethodName := ⟨RX8, "begin", "()V"⟩
abbrev cX8_memberAt : ByteArray := prog_10_method_9_code
def yX8_memberAt : MethodName := ⟨RX8, "memberAt", "(I)I"⟩
abbrev cX8_wineAt : ByteArray := prog_10_method_10_code
def yX8_wineAt : MethodName := ⟨RX8, "wineAt", "(I)I"⟩
abbrev cX8_binAt : ByteArray := prog_10_method_11_code
def yX8_binAt : MethodName := ⟨RX8, "binAt", "(I)I"⟩
abbrev cX8_hold : ByteArray := prog_10_method_12_code
def yX8_hold : MethodName := ⟨RX8, "hold", "(II)I"⟩
abbrev cX8_allOf : ByteArray := prog_10_method_13_code
def yX8_allOf : MethodName := ⟨RX8, "allOf", "([III)I"⟩
abbrev cX8_ownedBy : ByteArray := prog_10_method_14_code
def yX8_ownedBy : MethodName := ⟨RX8, "ownedBy", "([II)I"⟩
abbrev cX8_cellar : ByteArray := prog_10_method_15_code
def yX8_cellar : MethodName := ⟨RX8, "cellar", "([I)I"⟩
abbrev cX8_emptyBins : ByteArray := prog_10_method_16_code
def yX8_emptyBins : MethodName := ⟨RX8, "emptyBins", "([I)I"⟩
abbrev cX8_roomIn : ByteArray := prog_10_method_17_code
def yX8_roomIn : MethodName := ⟨RX8, "roomIn", "([II)I"⟩
abbrev cX8_ofWine : ByteArray := prog_10_method_18_code
def yX8_ofWine : MethodName := ⟨RX8, "ofWine", "([II)I"⟩
abbrev cX8_hasWine : ByteArray := prog_10_method_19_code
def yX8_hasWine : MethodName := ⟨RX8, "hasWine", "([III)Z"⟩
abbrev cX8_tightest : ByteArray := prog_10_method_20_code
def yX8_tightest : MethodName := ⟨RX8, "tightest", "([II)I"⟩
abbrev cX8_emptyFor : ByteArray := prog_10_method_21_code
def yX8_emptyFor : MethodName := ⟨RX8, "emptyFor", "([II)I"⟩
abbrev cX8_lay : ByteArray := prog_10_method_22_code
def yX8_lay : MethodName := ⟨RX8, "lay", "([III)V"⟩
abbrev cX8_take : ByteArray := prog_10_method_23_code
def yX8_take : MethodName := ⟨RX8, "take", "([III)V"⟩
abbrev cX8_roomOf : ByteArray := prog_10_method_24_code
def yX8_roomOf : MethodName := ⟨RX8, "roomOf", "([II)I"⟩
abbrev cX8_layGot : ByteArray := prog_10_method_25_code
def yX8_layGot : MethodName := ⟨RX8, "layGot", "([II)I"⟩
abbrev cX8_isAhead : ByteArray := prog_10_method_26_code
def yX8_isAhead : MethodName := ⟨RX8, "isAhead", "([III)Z"⟩
abbrev cX8_half : ByteArray := prog_10_method_27_code
def yX8_half : MethodName := ⟨RX8, "half", "(I)I"⟩
abbrev cX8_goAllocate : ByteArray := prog_10_method_28_code
def yX8_goAllocate : MethodName := ⟨RX8, "goAllocate", "([II)I"⟩
abbrev cX8_canDeliver : ByteArray := prog_10_method_29_code
def yX8_canDeliver : MethodName := ⟨RX8, "canDeliver", "([II)Z"⟩
abbrev cX8_goDeliver : ByteArray := prog_10_method_30_code
def yX8_goDeliver : MethodName := ⟨RX8, "goDeliver", "([II)I"⟩
abbrev cX8_goDrink : ByteArray := prog_10_method_31_code
def yX8_goDrink : MethodName := ⟨RX8, "goDrink", "([IIII)V"⟩
abbrev cX8_goGive : ByteArray := prog_10_method_32_code
def yX8_goGive : MethodName := ⟨RX8, "goGive", "([IIIII)V"⟩
abbrev cX8_goCork : ByteArray := prog_10_method_33_code
def yX8_goCork : MethodName := ⟨RX8, "goCork", "([III)I"⟩
abbrev cX8_canMove : ByteArray := prog_10_method_34_code
def yX8_canMove : MethodName := ⟨RX8, "canMove", "([IIII)Z"⟩
abbrev cX8_goMove : ByteArray := prog_10_method_35_code
def yX8_goMove : MethodName := ⟨RX8, "goMove", "([IIII)V"⟩
abbrev cX8_append : ByteArray := prog_10_method_36_code
def yX8_append : MethodName := ⟨RX8, "append", "(I)I"⟩
abbrev cX8_clearText : ByteArray := prog_10_method_37_code
def yX8_clearText : MethodName := ⟨RX8, "clearText", "()I"⟩
abbrev cX8_isNext : ByteArray := prog_10_method_38_code
def yX8_isNext : MethodName := ⟨RX8, "isNext", "(I)Z"⟩
abbrev cX8_accept : ByteArray := prog_10_method_39_code
def yX8_accept : MethodName := ⟨RX8, "accept", "(Z)V"⟩
abbrev cX8_digit : ByteArray := prog_10_method_40_code
def yX8_digit : MethodName := ⟨RX8, "digit", "(II)I"⟩
abbrev cX8_two : ByteArray := prog_10_method_41_code
def yX8_two : MethodName := ⟨RX8, "two", "(II)I"⟩
abbrev cX8_addMemberTo : ByteArray := prog_10_method_42_code
def yX8_addMemberTo : MethodName := ⟨RX8, "addMemberTo", "([II)V"⟩
abbrev cX8_addWineTo : ByteArray := prog_10_method_43_code
def yX8_addWineTo : MethodName := ⟨RX8, "addWineTo", "([III)V"⟩
abbrev cX8_addBinTo : ByteArray := prog_10_method_44_code
def yX8_addBinTo : MethodName := ⟨RX8, "addBinTo", "([II)V"⟩
abbrev cX8_readPart : ByteArray := prog_10_method_45_code
def yX8_readPart : MethodName := ⟨RX8, "readPart", "()V"⟩
abbrev cX8_readText : ByteArray := prog_10_method_46_code
def yX8_readText : MethodName := ⟨RX8, "readText", "()I"⟩
abbrev cX8_errorPosition : ByteArray := prog_10_method_47_code
def yX8_errorPosition : MethodName := ⟨RX8, "errorPosition", "()I"⟩
abbrev cX8_load : ByteArray := prog_10_method_48_code
def yX8_load : MethodName := ⟨RX8, "load", "()I"⟩
abbrev cX8_owedByAll : ByteArray := prog_10_method_49_code
def yX8_owedByAll : MethodName := ⟨RX8, "owedByAll", "([I)I"⟩
abbrev cX8_allRoom : ByteArray := prog_10_method_50_code
def yX8_allRoom : MethodName := ⟨RX8, "allRoom", "([I)I"⟩
abbrev cX8_about : ByteArray := prog_10_method_51_code
def yX8_about : MethodName := ⟨RX8, "about", "(I)I"⟩
abbrev cX8_isMember : ByteArray := prog_10_method_52_code
def yX8_isMember : MethodName := ⟨RX8, "isMember", "(I)Z"⟩
abbrev cX8_isWine : ByteArray := prog_10_method_53_code
def yX8_isWine : MethodName := ⟨RX8, "isWine", "(I)Z"⟩
abbrev cX8_isBin : ByteArray := prog_10_method_54_code
def yX8_isBin : MethodName := ⟨RX8, "isBin", "(I)Z"⟩
abbrev cX8_member : ByteArray := prog_10_method_55_code
def yX8_member : MethodName := ⟨RX8, "member", "(II)I"⟩
abbrev cX8_wine : ByteArray := prog_10_method_56_code
def yX8_wine : MethodName := ⟨RX8, "wine", "(II)I"⟩
abbrev cX8_bin : ByteArray := prog_10_method_57_code
def yX8_bin : MethodName := ⟨RX8, "bin", "(II)I"⟩
abbrev cX8_has : ByteArray := prog_10_method_58_code
def yX8_has : MethodName := ⟨RX8, "has", "(III)I"⟩
abbrev cX8_addMember : ByteArray := prog_10_method_59_code
def yX8_addMember : MethodName := ⟨RX8, "addMember", "(I)I"⟩
abbrev cX8_addWine : ByteArray := prog_10_method_60_code
def yX8_addWine : MethodName := ⟨RX8, "addWine", "(II)I"⟩
abbrev cX8_addBin : ByteArray := prog_10_method_61_code
def yX8_addBin : MethodName := ⟨RX8, "addBin", "(I)I"⟩
abbrev cX8_order : ByteArray := prog_10_method_62_code
def yX8_order : MethodName := ⟨RX8, "order", "(III)I"⟩
abbrev cX8_allocate : ByteArray := prog_10_method_63_code
def yX8_allocate : MethodName := ⟨RX8, "allocate", "(I)I"⟩
abbrev cX8_deliver : ByteArray := prog_10_method_64_code
def yX8_deliver : MethodName := ⟨RX8, "deliver", "(I)I"⟩
abbrev cX8_drink : ByteArray := prog_10_method_65_code
def yX8_drink : MethodName := ⟨RX8, "drink", "(III)I"⟩
abbrev cX8_give : ByteArray := prog_10_method_66_code
def yX8_give : MethodName := ⟨RX8, "give", "(IIII)I"⟩
abbrev cX8_cork : ByteArray := prog_10_method_67_code
def yX8_cork : MethodName := ⟨RX8, "cork", "(II)I"⟩
abbrev cX8_move : ByteArray := prog_10_method_68_code
def yX8_move : MethodName := ⟨RX8, "move", "(III)I"⟩
abbrev cX8_pay : ByteArray := prog_10_method_69_code
def yX8_pay : MethodName := ⟨RX8, "pay", "(I)I"⟩
abbrev cX8_undo : ByteArray := prog_10_method_70_code
def yX8_undo : MethodName := ⟨RX8, "undo", "()I"⟩
abbrev cX8_wouldGet : ByteArray := prog_10_method_71_code
def yX8_wouldGet : MethodName := ⟨RX8, "wouldGet", "(II)I"⟩
abbrev cX8_roomFor : ByteArray := prog_10_method_72_code
def yX8_roomFor : MethodName := ⟨RX8, "roomFor", "(I)I"⟩
abbrev cX8_sizes : ByteArray := prog_10_method_73_code
def yX8_sizes : MethodName := ⟨RX8, "sizes", "([II)I"⟩
abbrev cX8_bits : ByteArray := prog_10_method_74_code
def yX8_bits : MethodName := ⟨RX8, "bits", "(I)I"⟩
abbrev cX8_layWine : ByteArray := prog_10_method_75_code
def yX8_layWine : MethodName := ⟨RX8, "layWine", "(I)V"⟩
abbrev cX8_fewestBins : ByteArray := prog_10_method_76_code
def yX8_fewestBins : MethodName := ⟨RX8, "fewestBins", "()I"⟩
abbrev cX8_shortest : ByteArray := prog_10_method_77_code
def yX8_shortest : MethodName := ⟨RX8, "shortest", "(I)I"⟩
abbrev cX8_owns : ByteArray := prog_10_method_78_code
def yX8_owns : MethodName := ⟨RX8, "owns", "([IIII)Z"⟩
abbrev cX8_does : ByteArray := prog_10_method_79_code
def yX8_does : MethodName := ⟨RX8, "does", "(I)Z"⟩
abbrev cX8_runScript : ByteArray := prog_10_method_80_code
def yX8_runScript : MethodName := ⟨RX8, "runScript", "(IJ)I"⟩
abbrev cX8_evening : ByteArray := prog_10_method_81_code
def yX8_evening : MethodName := ⟨RX8, "evening", "(I)V"⟩
abbrev cX8_simulate : ByteArray := prog_10_method_82_code
def yX8_simulate : MethodName := ⟨RX8, "simulate", "(JI)I"⟩
abbrev cX8_save : ByteArray := prog_10_method_83_code
def yX8_save : MethodName := ⟨RX8, "save", "(I)I"⟩
abbrev cX8_restore : ByteArray := prog_10_method_84_code
def yX8_restore : MethodName := ⟨RX8, "restore", "(I)I"⟩
def RJ6 : String := "java/lang/Integer"
def TJ6 : u_T := fun k => match k with
  | _ => ("", "", "", false)
def tyJ6 : Nat → FieldType := fun k => match k with
  | _ => .int
theorem nmJ6 : ∀ a, a < 0 → ∀ b, b < 0 → a ≠ b → (TJ6 a).2.1 ≠ (TJ6 b).2.1 := by decide +kernel
theorem tyJ6_ok : ∀ k, k < 0 → parseFieldDescriptor (TJ6 k).2.2.1 = some (tyJ6 k) := by decide +kernel
abbrev cJ6_bitCount_0f7a4 : ByteArray := prog_15_method_49_code
def yJ6_bitCount_0f7a4 : MethodName := ⟨RJ6, "bitCount", "(I)I"⟩
def RJ9 : String := "java/lang/Math"
def TJ9 : u_T := fun k => match k with
  | _ => ("", "", "", false)
def tyJ9 : Nat → FieldType := fun k => match k with
  | _ => .int
theorem nmJ9 : ∀ a, a < 0 → ∀ b, b < 0 → a ≠ b → (TJ9 a).2.1 ≠ (TJ9 b).2.1 := by decide +kernel
theorem tyJ9_ok : ∀ k, k < 0 → parseFieldDescriptor (TJ9 k).2.2.1 = some (tyJ9 k) := by decide +kernel
abbrev cJ9_min_7cf53 : ByteArray := prog_16_method_69_code
def yJ9_min_7cf53 : MethodName := ⟨RJ9, "min", "(II)I"⟩
def RJ0 : String := "java/lang/String"
def TJ0 : u_T := fun k => match k with
  | _ => ("", "", "", false)
def tyJ0 : Nat → FieldType := fun k => match k with
  | _ => .int
theorem nmJ0 : ∀ a, a < 0 → ∀ b, b < 0 → a ≠ b → (TJ0 a).2.1 ≠ (TJ0 b).2.1 := by decide +kernel
theorem tyJ0_ok : ∀ k, k < 0 → parseFieldDescriptor (TJ0 k).2.2.1 = some (tyJ0 k) := by decide +kernel
def RJ10 : String := "java/lang/System"
def TJ10 : u_T := fun k => match k with
  | _ => ("", "", "", false)
def tyJ10 : Nat → FieldType := fun k => match k with
  | _ => .int
theorem nmJ10 : ∀ a, a < 0 → ∀ b, b < 0 → a ≠ b → (TJ10 a).2.1 ≠ (TJ10 b).2.1 := by decide +kernel
theorem tyJ10_ok : ∀ k, k < 0 → parseFieldDescriptor (TJ10 k).2.2.1 = some (tyJ10 k) := by decide +kernel
def RL : String := "CellarClubLaw"
abbrev cL_append : ByteArray := method_3_code
def yL_append : MethodName := ⟨RL, "append", "(LCellarClub;I[J)I"⟩
abbrev cL_load : ByteArray := method_4_code
def yL_load : MethodName := ⟨RL, "load", "(LCellarClub;[J)I"⟩
abbrev cL_about : ByteArray := method_5_code
def yL_about : MethodName := ⟨RL, "about", "(LCellarClub;I[J)I"⟩
abbrev cL_member : ByteArray := method_6_code
def yL_member : MethodName := ⟨RL, "member", "(LCellarClub;II[J)I"⟩
abbrev cL_wine : ByteArray := method_7_code
def yL_wine : MethodName := ⟨RL, "wine", "(LCellarClub;II[J)I"⟩
abbrev cL_bin : ByteArray := method_8_code
def yL_bin : MethodName := ⟨RL, "bin", "(LCellarClub;II[J)I"⟩
abbrev cL_has : ByteArray := method_9_code
def yL_has : MethodName := ⟨RL, "has", "(LCellarClub;III[J)I"⟩
abbrev cL_addMember : ByteArray := method_10_code
def yL_addMember : MethodName := ⟨RL, "addMember", "(LCellarClub;I[J)I"⟩
abbrev cL_addWine : ByteArray := method_11_code
def yL_addWine : MethodName := ⟨RL, "addWine", "(LCellarClub;II[J)I"⟩
abbrev cL_addBin : ByteArray := method_12_code
def yL_addBin : MethodName := ⟨RL, "addBin", "(LCellarClub;I[J)I"⟩
abbrev cL_order : ByteArray := method_13_code
def yL_order : MethodName := ⟨RL, "order", "(LCellarClub;III[J)I"⟩
abbrev cL_allocate : ByteArray := method_14_code
def yL_allocate : MethodName := ⟨RL, "allocate", "(LCellarClub;I[J)I"⟩
abbrev cL_deliver : ByteArray := method_15_code
def yL_deliver : MethodName := ⟨RL, "deliver", "(LCellarClub;I[J)I"⟩
abbrev cL_drink : ByteArray := method_16_code
def yL_drink : MethodName := ⟨RL, "drink", "(LCellarClub;III[J)I"⟩
abbrev cL_give : ByteArray := method_17_code
def yL_give : MethodName := ⟨RL, "give", "(LCellarClub;IIII[J)I"⟩
abbrev cL_cork : ByteArray := method_18_code
def yL_cork : MethodName := ⟨RL, "cork", "(LCellarClub;II[J)I"⟩
abbrev cL_move : ByteArray := method_19_code
def yL_move : MethodName := ⟨RL, "move", "(LCellarClub;III[J)I"⟩
abbrev cL_pay : ByteArray := method_20_code
def yL_pay : MethodName := ⟨RL, "pay", "(LCellarClub;I[J)I"⟩
abbrev cL_undo : ByteArray := method_21_code
def yL_undo : MethodName := ⟨RL, "undo", "(LCellarClub;[J)I"⟩
abbrev cL_wouldGet : ByteArray := method_22_code
def yL_wouldGet : MethodName := ⟨RL, "wouldGet", "(LCellarClub;II[J)I"⟩
abbrev cL_roomFor : ByteArray := method_23_code
def yL_roomFor : MethodName := ⟨RL, "roomFor", "(LCellarClub;I[J)I"⟩
abbrev cL_shortest : ByteArray := method_24_code
def yL_shortest : MethodName := ⟨RL, "shortest", "(LCellarClub;I[J)I"⟩
abbrev cL_runScript : ByteArray := method_25_code
def yL_runScript : MethodName := ⟨RL, "runScript", "(LCellarClub;IJ[J)I"⟩
abbrev cL_simulate : ByteArray := method_26_code
def yL_simulate : MethodName := ⟨RL, "simulate", "(LCellarClub;JI[J)I"⟩
abbrev cL_save : ByteArray := method_27_code
def yL_save : MethodName := ⟨RL, "save", "(LCellarClub;I[J)I"⟩
abbrev cL_restore : ByteArray := method_28_code
def yL_restore : MethodName := ⟨RL, "restore", "(LCellarClub;I[J)I"⟩
abbrev cL_law : ByteArray := code
def yL_law : MethodName := ⟨RL, "law", "([I)Z"⟩
abbrev vwCl : List vw_C := [(RX0, TX0, 14), (RX1, TX1, 2), (RX2, TX2, 2), (RX3, TX3, 4), (RX4, TX4, 1), (RX5, TX5, 1), (RX6, TX6, 5), (RX7, TX7, 7), (RX8, TX8, 15)]

theorem inX0 : ∀ w ∈ u_ws RX0 TX0 14, w ∈ lw_tbl := by decide +kernel
theorem inX1 : ∀ w ∈ u_ws RX1 TX1 2, w ∈ lw_tbl := by decide +kernel
theorem inX2 : ∀ w ∈ u_ws RX2 TX2 2, w ∈ lw_tbl := by decide +kernel
theorem inX3 : ∀ w ∈ u_ws RX3 TX3 4, w ∈ lw_tbl := by decide +kernel
theorem inX4 : ∀ w ∈ u_ws RX4 TX4 1, w ∈ lw_tbl := by decide +kernel
theorem inX5 : ∀ w ∈ u_ws RX5 TX5 1, w ∈ lw_tbl := by decide +kernel
theorem inX6 : ∀ w ∈ u_ws RX6 TX6 5, w ∈ lw_tbl := by decide +kernel
theorem inX7 : ∀ w ∈ u_ws RX7 TX7 7, w ∈ lw_tbl := by decide +kernel
theorem inX8 : ∀ w ∈ u_ws RX8 TX8 15, w ∈ lw_tbl := by decide +kernel
end
section
/-! Our own layer over the kit's W: one store for all objects, a predicate WP at a pc, contracts CT, a row an instruction. -/
section CEA
/-- what stays: the launch, the classes' ids and slots, the array classes' ids (int, char, boolean, Club[], long) -/
abbrev ce_G : Type := Launch × va_G × (Nat → ClassId)
/-- the store's slow part: heap's size, kinds (0: not ours; 1..9: object of vwCl[k-1]; 10 int[], 11 char[], 12 boolean[], 13 Club[], 14 long[]), lengths, references, longs -/
abbrev ce_S : Type := Nat × (Nat → Nat) × (Nat → Nat) × (Nat → Nat → Option Nat) × (Nat → Nat → Int64)
/-- the store's ints -/
abbrev ce_D : Type := Nat → Nat → Int32
abbrev ce_tp (σ : ce_S) : Nat := σ.1
abbrev ce_kd (σ : ce_S) : Nat → Nat := σ.2.1
abbrev ce_ln (σ : ce_S) : Nat → Nat := σ.2.2.1
abbrev ce_gr (σ : ce_S) : Nat → Nat → Option Nat := σ.2.2.2.1
abbrev ce_gl (σ : ce_S) : Nat → Nat → Int64 := σ.2.2.2.2
/-- a method: name, code, locals, answer's type, handlers -/
abbrev ce_Y : Type := MethodName × ByteArray × Nat × Option FieldType × List (Nat × Nat × Nat × Nat)
def ce_rty (ci k : Nat) : Bool := match vwCl[ci]? with
  | some (_, T, _) => match parseFieldDescriptor (T k).2.2.1 with
    | some (.object _) => true
    | some (.array _) => true
    | _ => false
  | none => false
def ce_fv (σ : ce_S) (g : ce_D) (ci a k : Nat) : Value := if ce_rty ci k then va_rf (ce_gr σ a k) else .int (g a k)
def ce_cell (G : ce_G) (σ : ce_S) (g : ce_D) (H : Heap) (a : Nat) : Prop :=
  (∀ (ci : Nat) (r : vw_C), ce_kd σ a = ci + 1 → vwCl[ci]? = some r → t_OB a (G.2.1.1 ci) r.2.2 (G.2.1.2 ci) H (ce_fv σ g ci a)) ∧
  (ce_kd σ a = 10 → H[a]? = some (arrV (G.2.2 0) (ce_ln σ a) (fun j => .int (g a j)))) ∧
  (ce_kd σ a = 11 → H[a]? = some (arrV (G.2.2 1) (ce_ln σ a) (fun j => .int (g a j)))) ∧
  (ce_kd σ a = 12 → H[a]? = some (arrV (G.2.2 2) (ce_ln σ a) (fun j => .int (g a j)))) ∧
  (ce_kd σ a = 13 → H[a]? = some (arrV (G.2.2 3) (ce_ln σ a) (fun j => va_rf (ce_gr σ a j)))) ∧
  (ce_kd σ a = 14 → H[a]? = some (arrV (G.2.2 4) (ce_ln σ a) (fun j => .long (ce_gl σ a j))))
def ce_R (G : ce_G) (σ : ce_S) (g : ce_D) (H : Heap) : Prop := ∀ a : Nat, ce_kd σ a ≠ 0 → ce_kd σ a ≤ 14 ∧ ce_cell G σ g H a
def ce_tys (G : ce_G) : List (ClassId × FieldType) := [(G.2.2 0, .int), (G.2.2 1, .char), (G.2.2 2, .boolean), (G.2.2 3, .object "CellarClub$Club"), (G.2.2 4, .long)]
/-- words that hold of every later state, but are none of the kit's 'good' ones -/
def ce_nest : Cond → Bool
  | .fieldLinkNest _ _ _ _ _ _ => true
  | .methodLinkNest _ _ _ _ => true
  | .declares _ => true
  | .castable _ _ => true
  | _ => false
def ce_strs : List (String × Nat × String) := [("CellarClub", 266, "no such member, wine, bin or save slot"), ("CellarClub", 273, "an argument is out of its range"), ("CellarClub", 278, "the present state does not allow this")]
def ce_xs : List String := ["java/lang/IndexOutOfBoundsException", "java/lang/IllegalArgumentException", "java/lang/IllegalStateException"]
def ce_K (G : ce_G) (U : State) : Prop :=
  va_K G.2.1 vwCl (ce_tys G) U ∧ (∀ w ∈ lw_tbl, ce_nest w = true → va_Nw w U) ∧ (∀ q ∈ ce_strs, ∃ a, vk_R q.1 q.2.1 q.2.2 a U) ∧
  (∀ x ∈ ce_xs, ∀ y ∈ ce_xs, x ≠ y → va_Nc x y U) ∧ G.1.stackTraces = false ∧ va_AO "CellarClub$Club" U
def ce_Z (A : Nat → Prop) (U : State) (H : Heap) : Prop := vx_Zq Bundle.tN "UNASSIGNED_STACK" Bundle.steD A U H ∧ vx_Zq Bundle.tN "SUPPRESSED_SENTINEL" Bundle.listD A U H
def ce_gw : List Cond := lw_tbl.filter goodWord
def ce_cw (Y : ce_Y) : Cond := match Y.2.2.2.2 with
  | [] => .code Y.1 Y.2.1 Y.2.2.1 Y.2.2.2.1
  | hh => .codeWith Y.1 Y.2.1 Y.2.2.1 Y.2.2.2.1 hh
def ce_ws (Y : ce_Y) : List Cond := ce_cw Y :: ce_gw
theorem ce_gw_in {w : Cond} (h : w ∈ lw_tbl) (hg : goodWord w = true) (Y : ce_Y) : w ∈ ce_ws Y := List.mem_cons_of_mem _ (List.mem_filter.mpr ⟨h, hg⟩)
/-- what holds in a method's frame -/
def ce_C (Y : ce_Y) (G : ce_G) (A : Nat → Prop) (p : Program) (s : State) (m : MethodId) (args : Array Value) (meth : Method) (c : Code) : Prop :=
  p.tables.exec = Jvm.exec ∧ c.code = Y.2.1 ∧ c.maxLocals = Y.2.2.1 ∧ meth.sig.returnType = Y.2.2.2.1 ∧ meth.locks = false ∧ s.vm.findClass Y.1.cls = some m.cls ∧ (∀ w ∈ ce_ws Y, w.before args s = true) ∧
  ce_K G s ∧ ce_Z A s s.heap ∧ meth.name = Y.1.name ∧ c.exceptionTable.toList = tableOf Y.2.2.2.2
def ce_I (G : ce_G) (A : Nat → Prop) (s : State) (σ : ce_S) (g : ce_D) (H : Heap) (locs : List Loc) : Prop :=
  ce_R G σ g H ∧ H.size = ce_tp σ ∧ va_S A s.heap H locs ∧ (∀ q, s.heap.size ≤ q → A q) ∧ (∀ q, ce_kd σ q ≠ 0 → A q)
/-- the locals -/
def ce_L (ls : Array Slot) (n : Nat) (L : List (Option Value)) : Prop := ls.size = n ∧ lv_wf ls ∧ L.length = n ∧ ∀ (i : Nat) (v : Value), L[i]? = some (some v) → ls[i]? = some (.val v)
def ce_E (G : ce_G) (A : Nat → Prop) (σ : ce_S) (g : ce_D) (U : State) : Prop := ce_R G σ g U.heap ∧ U.heap.size = ce_tp σ ∧ (∀ q, ce_tp σ ≤ q → A q) ∧ (∀ q, ce_kd σ q ≠ 0 → A q) ∧ ce_K G U ∧ ce_Z A U U.heap
def ce_Q (G : ce_G) (Q : Option Value → ce_S → ce_D → Prop) (A : Nat → Prop) : Array Value → State → Outcome → State → Prop := fun _ st o t =>
  ∃ (v : Option Value) (σ : ce_S) (g : ce_D), o = .returned v ∧ Q v σ g ∧ ce_R G σ g t.heap ∧ t.heap.size = ce_tp σ ∧ (∀ q, ce_kd σ q ≠ 0 → A q) ∧ va_F A st t
def ce_X (G : ce_G) (X : String → ce_S → ce_D → Prop) (A : Nat → Prop) : String → State → State → Prop := fun E st t =>
  ∃ (σ : ce_S) (g : ce_D), X E σ g ∧ ce_R G σ g t.heap ∧ t.heap.size = ce_tp σ ∧ (∀ q, ce_kd σ q ≠ 0 → A q) ∧ va_F A st t
/-- at pc, with these locals, this stack, this store: the method ends, as Q says, or throws, as X says -/
def ce_WP (ρ : Room) (Y : ce_Y) (kc ks pc : Nat) (L : List (Option Value)) (st : List Value) (σ : ce_S) (g : ce_D) (Q : Option Value → ce_S → ce_D → Prop) (X : String → ce_S → ce_D → Prop) : Prop :=
  ∀ (G : ce_G) (A : Nat → Prop) (p : Program) (e : Env) (s : State) (m : MethodId) (args : Array Value) (below : List Frame) (meth : Method) (c : Code) (H : Heap) (locs : List Loc) (ls : Array Slot),
    ce_C Y G A p s m args meth c → ce_I G A s σ g H locs → ce_L ls Y.2.2.1 L →
    W p G.1 e ρ s m args below meth c H locs kc ks (vx_MQ below (ce_Q G Q A) (ce_X G X A) args s ρ.cells ρ.slots A) (F0 m pc ls st)
/-- .. with an exception of class E thrown there -/
def ce_WX (ρ : Room) (Y : ce_Y) (kc ks pc : Nat) (L : List (Option Value)) (st : List Value) (σ : ce_S) (g : ce_D) (Q : Option Value → ce_S → ce_D → Prop) (X : String → ce_S → ce_D → Prop) (E : String) : Prop :=
  ∀ (G : ce_G) (A : Nat → Prop) (p : Program) (e : Env) (s : State) (m : MethodId) (args : Array Value) (below : List Frame) (meth : Method) (c : Code) (H : Heap) (locs : List Loc) (ls : Array Slot) (ce : Cell) (q : Addr),
    ce_C Y G A p s m args meth c → ce_I G A s σ g H locs → ce_L ls Y.2.2.1 L → H[q]? = some ce → ce.vm = .none → s.vm.findClass E = some ce.cls →
    vx_W p G.1 e ρ s m args below meth c H locs kc ks (vx_MQ below (ce_Q G Q A) (ce_X G X A) args s ρ.cells ρ.slots A) (F0 m pc ls st) q
/-- a method's contract -/
def ce_CT (ρ : Room) (Y : ce_Y) (av : List Value) (σ : ce_S) (g : ce_D) (Q : Option Value → ce_S → ce_D → Prop) (X : String → ce_S → ce_D → Prop) : Prop :=
  ∀ (G : ce_G) (A : Nat → Prop), vx_Met G.1 Y.1 (ce_ws Y) ρ (va_Pc av (ce_E G A σ g)) (ce_Q G Q A) (ce_X G X A) ρ.cells ρ.slots A
def ce_A (σ : ce_S) : Nat → Prop := fun q => ce_kd σ q ≠ 0 ∨ ce_tp σ ≤ q
abbrev ce_no : String → ce_S → ce_D → Prop := fun _ _ _ => False
/-! what is kept -/
theorem ce_tabs_same {w : Cond} (h : ce_nest w = true) : w.onTables = true := by
  cases w <;> first | rfl | cases h
theorem ce_K_warm {G : ce_G} {s U : State} (hW : s.WarmedH U.vm) (h : ce_K G s) : ce_K G U := by
  obtain ⟨h1, h2, h3, h4, h5, h6⟩ := h
  refine ⟨va_K.moved hW.alike h1, fun w hw hn => ?_, fun q hq => ?_, fun x hx y hy hn => va_Nc.moved hW.alike (h4 x hx y hy hn), h5, va_AO.moved hW.alike h6⟩
  · have h9 := h2 w hw hn
    cases w <;> first | exact va_Nw.warmF hW h9 | exact va_Nw.warmM hW h9 | exact va_Nw.warmD hW h9 | exact va_Nw.warmC hW h9 | cases hn
  · obtain ⟨a, ha⟩ := h3 q hq
    exact ⟨a, vk_R.warm hW ha⟩
theorem ce_K_same {G : ce_G} {s U : State} (hv : s.vm = U.vm) (h : ce_K G s) : ce_K G U := by
  have hW : s.WarmedH U.vm := by rw [← hv]; exact State.WarmedH.refl s
  exact ce_K_warm hW h
theorem ce_Z_moved {A : Nat → Prop} {u U : State} {H : Heap} (hvm : u.vm.Alike U.vm) (h : ce_Z A u H) : ce_Z A U H := ⟨vx_Zq.moved hvm h.1, vx_Zq.moved hvm h.2⟩
theorem ce_Z_kept {A : Nat → Prop} {U : State} {H H1 : Heap} (h : ce_Z A U H) (hq : ∀ a : Nat, a < H.size → ¬ A a → H1[a]? = H[a]?) : ce_Z A U H1 := ⟨vx_Zq.kept h.1 hq, vx_Zq.kept h.2 hq⟩
theorem ce_Z_narrow {A B : Nat → Prop} {U : State} {H : Heap} (h : ce_Z A U H) (hAB : ∀ q, B q → A q) : ce_Z B U H := ⟨vx_Zq.narrow h.1 hAB, vx_Zq.narrow h.2 hAB⟩
theorem ce_E_blind {G : ce_G} {A : Nat → Prop} {av : List Value} {σ : ce_S} {g : ce_D} : FrameBlind (va_Pc av (ce_E G A σ g)) := by
  intro a U f mk h
  obtain ⟨h1, h2, h3, h4, h5, h6, h7⟩ := h
  exact ⟨h1, h2, h3, h4, h5, ce_K_same (s := U) (U := U.calling f mk a) rfl h6, ce_Z_moved (u := U) (U := U.calling f mk a) (Vm.Alike.refl U.vm) h7⟩
theorem ce_lt {G : ce_G} {σ : ce_S} {g : ce_D} {H : Heap} (h : ce_R G σ g H) {a : Nat} (hk : ce_kd σ a ≠ 0) : a < H.size := by
  obtain ⟨h15, h1, h2, h3, h4, h5, h6⟩ := h a hk
  by_cases h9 : ce_kd σ a ≤ 9
  · obtain ⟨ci, hci⟩ : ∃ ci, ce_kd σ a = ci + 1 := ⟨ce_kd σ a - 1, by omega⟩
    have hr : ∃ r, vwCl[ci]? = some r := by
      have : ci < vwCl.length := by show ci < 9; omega
      exact ⟨_, List.getElem?_eq_getElem this⟩
    obtain ⟨r, hr⟩ := hr
    obtain ⟨cell, hc, -⟩ := h1 ci r hci hr
    exact (Array.getElem?_eq_some_iff.mp hc).1
  · rcases (show ce_kd σ a = 10 ∨ ce_kd σ a = 11 ∨ ce_kd σ a = 12 ∨ ce_kd σ a = 13 ∨ ce_kd σ a = 14 by omega) with e | e | e | e | e
    · exact (Array.getElem?_eq_some_iff.mp (h2 e)).1
    · exact (Array.getElem?_eq_some_iff.mp (h3 e)).1
    · exact (Array.getElem?_eq_some_iff.mp (h4 e)).1
    · exact (Array.getElem?_eq_some_iff.mp (h5 e)).1
    · exact (Array.getElem?_eq_some_iff.mp (h6 e)).1
theorem ce_cell_kept {G : ce_G} {σ σ' : ce_S} {g g' : ce_D} {H H1 : Heap} {a : Nat} (h : ce_cell G σ g H a) (hq : H1[a]? = H[a]?) (e1 : ce_kd σ' a = ce_kd σ a) (e2 : ce_ln σ' a = ce_ln σ a) (e3 : ce_gr σ' a = ce_gr σ a) (e4 : ce_gl σ' a = ce_gl σ a) (e5 : g' a = g a) : ce_cell G σ' g' H1 a := by
  obtain ⟨h1, h2, h3, h4, h5, h6⟩ := h
  unfold ce_cell
  rw [e1, e2, e3, e4, e5, hq]
  refine ⟨fun ci r hk hr => ?_, h2, h3, h4, h5, h6⟩
  have := (h1 ci r hk hr).kept hq
  refine this.to (fun k _ => ?_)
  simp only [ce_fv, e3, e5]
end CEA
end
section
section CEB
variable {ρ : Room} {Y : ce_Y} {kc ks pc : Nat} {L : List (Option Value)} {st : List Value} {σ : ce_S} {g : ce_D} {Q : Option Value → ce_S → ce_D → Prop} {X : String → ce_S → ce_D → Prop}
/-! locals -/
def ce_nl (L : List (Option Value)) (i : Nat) : Bool := match i with
  | 0 => true
  | j + 1 => match L[j]? with
    | some (some (.long _)) => false
    | some (some (.double _)) => false
    | _ => true
def ce_en (L : List (Option Value)) : List (Nat × Value) := (List.range L.length).filterMap fun i => match L[i]? with
  | some (some v) => some (i, v)
  | _ => none
theorem ce_en_mem {L : List (Option Value)} {j : Nat} {v : Value} : (j, v) ∈ ce_en L ↔ L[j]? = some (some v) := by
  unfold ce_en
  rw [List.mem_filterMap]
  constructor
  · rintro ⟨i, -, hi⟩
    cases hL : L[i]? with
    | none => rw [hL] at hi; cases hi
    | some o =>
      cases o with
      | none => rw [hL] at hi; cases hi
      | some w =>
        rw [hL] at hi
        cases hi
        exact hL
  · intro h
    have hl := (List.getElem?_eq_some_iff.mp h).1
    exact ⟨j, List.mem_range.mpr hl, by rw [h]⟩
theorem ce_L_has {ls : Array Slot} {n : Nat} {L : List (Option Value)} (h : ce_L ls n L) : lv_has ls n (ce_en L) := ⟨h.1, h.2.1, fun q hq => h.2.2.2 q.1 q.2 (ce_en_mem.mp (by cases q; exact hq))⟩
theorem ce_L_st1 {ls ls' : Array Slot} {n i : Nat} {L : List (Option Value)} {v : Value} (h : ce_L ls n L) (hi : i < L.length) (hn : ce_nl L i = true)
    (h' : lv_has ls' n ((i, v) :: (ce_en L).filter (fun q => !(q.1 == i) && !(q.1 + 1 == i && q.2.category == 2)))) : ce_L ls' n (L.set i (some v)) := by
  refine ⟨h'.1, h'.2.1, by rw [List.length_set]; exact h.2.2.1, fun j w hj => ?_⟩
  by_cases hij : i = j
  · subst hij
    rw [List.getElem?_set_self hi] at hj
    cases hj
    exact h'.2.2 (i, v) List.mem_cons_self
  · rw [List.getElem?_set_ne hij] at hj
    refine h'.2.2 (j, w) (List.mem_cons_of_mem _ (List.mem_filter.mpr ⟨ce_en_mem.mpr hj, ?_⟩))
    have h1 : (j == i) = false := by simpa using fun e => hij e.symm
    have h2 : (j + 1 == i && w.category == 2) = false := by
      by_cases hji : j + 1 = i
      · subst hji
        simp only [ce_nl, hj] at hn
        cases w <;> first | (simp [Value.category]; done) | cases hn
      · simp [hji]
    show (!(j == i) && !(j + 1 == i && w.category == 2)) = true
    rw [h1, h2]; rfl
theorem ce_L_st2 {ls ls' : Array Slot} {n i : Nat} {L : List (Option Value)} {v : Value} (h : ce_L ls n L) (hi : i < L.length) (hn : ce_nl L i = true)
    (h' : lv_has ls' n ((i, v) :: (ce_en L).filter (fun q => !(q.1 == i) && (!(q.1 == i + 1) && !(q.1 + 1 == i && q.2.category == 2))))) : ce_L ls' n ((L.set i (some v)).set (i + 1) none) := by
  refine ⟨h'.1, h'.2.1, by rw [List.length_set, List.length_set]; exact h.2.2.1, fun j w hj => ?_⟩
  by_cases hij1 : i + 1 = j
  · subst hij1
    by_cases hl : i + 1 < (L.set i (some v)).length
    · rw [List.getElem?_set_self hl] at hj
      cases hj
    · rw [List.getElem?_eq_none (by rw [List.length_set]; omega)] at hj
      cases hj
  · rw [List.getElem?_set_ne hij1] at hj
    by_cases hij : i = j
    · subst hij
      rw [List.getElem?_set_self hi] at hj
      cases hj
      exact h'.2.2 (i, v) List.mem_cons_self
    · rw [List.getElem?_set_ne hij] at hj
      refine h'.2.2 (j, w) (List.mem_cons_of_mem _ (List.mem_filter.mpr ⟨ce_en_mem.mpr hj, ?_⟩))
      have h1 : (j == i) = false := by simpa using fun e => hij e.symm
      have h3 : (j == i + 1) = false := by simpa using fun e => hij1 e.symm
      have h2 : (j + 1 == i && w.category == 2) = false := by
        by_cases hji : j + 1 = i
        · subst hji
          simp only [ce_nl, hj] at hn
          cases w <;> first | (simp [Value.category]; done) | cases hn
        · simp [hji]
      show (!(j == i) && (!(j == i + 1) && !(j + 1 == i && w.category == 2))) = true
      rw [h1, h2, h3]; rfl
/-! rows -/
theorem ce_iconst {n : Int} {v : Int32} (d : decode Y.2.1 pc = .ok (.iconst n, 1)) (hv : Int32.ofInt n = v) (k : ce_WP ρ Y kc ks (pc + 1) L (.int v :: st) σ g Q X) : ce_WP ρ Y kc ks pc L st σ g Q X := fun G A p e s m args below meth c H locs ls C I hl => lv_iconst C.1 C.2.1 d hv (k G A p e s m args below meth c H locs ls C I hl)
theorem ce_bipush {n : Int} {v : Int32} (d : decode Y.2.1 pc = .ok (.bipush n, 2)) (hv : (Int8.ofInt n).toInt32 = v) (k : ce_WP ρ Y kc ks (pc + 2) L (.int v :: st) σ g Q X) : ce_WP ρ Y kc ks pc L st σ g Q X := fun G A p e s m args below meth c H locs ls C I hl => lv_bipush C.1 C.2.1 d hv (k G A p e s m args below meth c H locs ls C I hl)
theorem ce_sipush {n : Int} {v : Int32} (d : decode Y.2.1 pc = .ok (.sipush n, 3)) (hv : (Int16.ofInt n).toInt32 = v) (k : ce_WP ρ Y kc ks (pc + 3) L (.int v :: st) σ g Q X) : ce_WP ρ Y kc ks pc L st σ g Q X := fun G A p e s m args below meth c H locs ls C I hl => lv_sipush C.1 C.2.1 d hv (k G A p e s m args below meth c H locs ls C I hl)
theorem ce_lconst {n : Fin 2} {v : Int64} (d : decode Y.2.1 pc = .ok (.lconst n, 1)) (hv : Int64.ofNat (n : Nat) = v) (k : ce_WP ρ Y kc ks (pc + 1) L (.long v :: st) σ g Q X) : ce_WP ρ Y kc ks pc L st σ g Q X := fun G A p e s m args below meth c H locs ls C I hl => lv_lconst C.1 C.2.1 d hv (k G A p e s m args below meth c H locs ls C I hl)
theorem ce_iload_n {i : Fin 4} {x : Int32} (d : decode Y.2.1 pc = .ok (.iload_n i, 1)) (hv : L[(i : Nat)]? = some (some (.int x))) (k : ce_WP ρ Y kc ks (pc + 1) L (.int x :: st) σ g Q X) : ce_WP ρ Y kc ks pc L st σ g Q X := fun G A p e s m args below meth c H locs ls C I hl => lv_iload_n C.1 C.2.1 d rfl (hl.2.2.2 _ _ hv) (k G A p e s m args below meth c H locs ls C I hl)
theorem ce_iload {i : Nat} {x : Int32} (d : decode Y.2.1 pc = .ok (.iload i, 2)) (hv : L[i]? = some (some (.int x))) (k : ce_WP ρ Y kc ks (pc + 2) L (.int x :: st) σ g Q X) : ce_WP ρ Y kc ks pc L st σ g Q X := fun G A p e s m args below meth c H locs ls C I hl => lv_iload C.1 C.2.1 d (hl.2.2.2 _ _ hv) (k G A p e s m args below meth c H locs ls C I hl)
theorem ce_istore_n {i : Fin 4} {x : Int32} (d : decode Y.2.1 pc = .ok (.istore_n i, 1)) (hi : (i : Nat) < L.length) (hn : ce_nl L (i : Nat) = true) (k : ce_WP ρ Y kc ks (pc + 1) (L.set (i : Nat) (some (.int x))) st σ g Q X) : ce_WP ρ Y kc ks pc L (.int x :: st) σ g Q X := fun G A p e s m args below meth c H locs ls C I hl => lv_istore_n C.1 C.2.1 d rfl (ce_L_has hl) (by rw [← hl.2.2.1]; exact hi) rfl (fun ls9 h9 => k G A p e s m args below meth c H locs ls9 C I (ce_L_st1 hl hi hn h9))
theorem ce_istore {i : Nat} {x : Int32} (d : decode Y.2.1 pc = .ok (.istore i, 2)) (hi : i < L.length) (hn : ce_nl L i = true) (k : ce_WP ρ Y kc ks (pc + 2) (L.set i (some (.int x))) st σ g Q X) : ce_WP ρ Y kc ks pc L (.int x :: st) σ g Q X := fun G A p e s m args below meth c H locs ls C I hl => lv_istore C.1 C.2.1 d (ce_L_has hl) (by rw [← hl.2.2.1]; exact hi) rfl (fun ls9 h9 => k G A p e s m args below meth c H locs ls9 C I (ce_L_st1 hl hi hn h9))
theorem ce_lload_n {i : Fin 4} {x : Int64} (d : decode Y.2.1 pc = .ok (.lload_n i, 1)) (hv : L[(i : Nat)]? = some (some (.long x))) (k : ce_WP ρ Y kc ks (pc + 1) L (.long x :: st) σ g Q X) : ce_WP ρ Y kc ks pc L st σ g Q X := fun G A p e s m args below meth c H locs ls C I hl => lv_lload_n C.1 C.2.1 d rfl (hl.2.2.2 _ _ hv) (k G A p e s m args below meth c H locs ls C I hl)
theorem ce_lload {i : Nat} {x : Int64} (d : decode Y.2.1 pc = .ok (.lload i, 2)) (hv : L[i]? = some (some (.long x))) (k : ce_WP ρ Y kc ks (pc + 2) L (.long x :: st) σ g Q X) : ce_WP ρ Y kc ks pc L st σ g Q X := fun G A p e s m args below meth c H locs ls C I hl => lv_lload C.1 C.2.1 d (hl.2.2.2 _ _ hv) (k G A p e s m args below meth c H locs ls C I hl)
theorem ce_lstore_n {i : Fin 4} {x : Int64} (d : decode Y.2.1 pc = .ok (.lstore_n i, 1)) (hi : (i : Nat) + 1 < L.length) (hn : ce_nl L (i : Nat) = true) (k : ce_WP ρ Y kc ks (pc + 1) ((L.set (i : Nat) (some (.long x))).set ((i : Nat) + 1) none) st σ g Q X) : ce_WP ρ Y kc ks pc L (.long x :: st) σ g Q X := fun G A p e s m args below meth c H locs ls C I hl => lv_lstore_n C.1 C.2.1 d rfl (ce_L_has hl) (by rw [← hl.2.2.1]; exact hi) rfl (fun ls9 h9 => k G A p e s m args below meth c H locs ls9 C I (ce_L_st2 hl (by omega) hn h9))
theorem ce_lstore {i : Nat} {x : Int64} (d : decode Y.2.1 pc = .ok (.lstore i, 2)) (hi : i + 1 < L.length) (hn : ce_nl L i = true) (k : ce_WP ρ Y kc ks (pc + 2) ((L.set i (some (.long x))).set (i + 1) none) st σ g Q X) : ce_WP ρ Y kc ks pc L (.long x :: st) σ g Q X := fun G A p e s m args below meth c H locs ls C I hl => lv_lstore C.1 C.2.1 d (ce_L_has hl) (by rw [← hl.2.2.1]; exact hi) rfl (fun ls9 h9 => k G A p e s m args below meth c H locs ls9 C I (ce_L_st2 hl (by omega) hn h9))
theorem ce_aload_n {i : Fin 4} {x : Nat} (d : decode Y.2.1 pc = .ok (.aload_n i, 1)) (hv : L[(i : Nat)]? = some (some (.ref x))) (k : ce_WP ρ Y kc ks (pc + 1) L (.ref x :: st) σ g Q X) : ce_WP ρ Y kc ks pc L st σ g Q X := fun G A p e s m args below meth c H locs ls C I hl => lv_aload_n C.1 C.2.1 d rfl (hl.2.2.2 _ _ hv) (k G A p e s m args below meth c H locs ls C I hl)
theorem ce_aload {i : Nat} {x : Nat} (d : decode Y.2.1 pc = .ok (.aload i, 2)) (hv : L[i]? = some (some (.ref x))) (k : ce_WP ρ Y kc ks (pc + 2) L (.ref x :: st) σ g Q X) : ce_WP ρ Y kc ks pc L st σ g Q X := fun G A p e s m args below meth c H locs ls C I hl => lv_aload C.1 C.2.1 d (hl.2.2.2 _ _ hv) (k G A p e s m args below meth c H locs ls C I hl)
theorem ce_astore_n {i : Fin 4} {x : Nat} (d : decode Y.2.1 pc = .ok (.astore_n i, 1)) (hi : (i : Nat) < L.length) (hn : ce_nl L (i : Nat) = true) (k : ce_WP ρ Y kc ks (pc + 1) (L.set (i : Nat) (some (.ref x))) st σ g Q X) : ce_WP ρ Y kc ks pc L (.ref x :: st) σ g Q X := fun G A p e s m args below meth c H locs ls C I hl => lv_astore_n C.1 C.2.1 d rfl (ce_L_has hl) (by rw [← hl.2.2.1]; exact hi) rfl (fun ls9 h9 => k G A p e s m args below meth c H locs ls9 C I (ce_L_st1 hl hi hn h9))
theorem ce_astore {i : Nat} {x : Nat} (d : decode Y.2.1 pc = .ok (.astore i, 2)) (hi : i < L.length) (hn : ce_nl L i = true) (k : ce_WP ρ Y kc ks (pc + 2) (L.set i (some (.ref x))) st σ g Q X) : ce_WP ρ Y kc ks pc L (.ref x :: st) σ g Q X := fun G A p e s m args below meth c H locs ls C I hl => lv_astore C.1 C.2.1 d (ce_L_has hl) (by rw [← hl.2.2.1]; exact hi) rfl (fun ls9 h9 => k G A p e s m args below meth c H locs ls9 C I (ce_L_st1 hl hi hn h9))
theorem ce_iinc {i : Nat} {n : Int} {x v : Int32} (d : decode Y.2.1 pc = .ok (.iinc i n, 3)) (hx : L[i]? = some (some (.int x))) (hv : x + Int32.ofInt n = v) (hi : i < L.length) (hn : ce_nl L i = true) (k : ce_WP ρ Y kc ks (pc + 3) (L.set i (some (.int v))) st σ g Q X) : ce_WP ρ Y kc ks pc L st σ g Q X := fun G A p e s m args below meth c H locs ls C I hl => by
  obtain ⟨q, hq⟩ := List.getElem?_of_mem (ce_en_mem.mpr hx)
  exact lv_iinc C.1 C.2.1 d (ce_L_has hl) hq hv (by rw [← hl.2.2.1]; exact hi) rfl (fun ls9 h9 => k G A p e s m args below meth c H locs ls9 C I (ce_L_st1 hl hi hn h9))
theorem ce_iadd {x y z : Int32} (d : decode Y.2.1 pc = .ok (.iadd, 1)) (hz : x + y = z) (k : ce_WP ρ Y kc ks (pc + 1) L (.int z :: st) σ g Q X) : ce_WP ρ Y kc ks pc L (.int y :: .int x :: st) σ g Q X := fun G A p e s m args below meth c H locs ls C I hl => by subst hz; exact lv_iadd C.1 C.2.1 d (k G A p e s m args below meth c H locs ls C I hl)
theorem ce_isub {x y z : Int32} (d : decode Y.2.1 pc = .ok (.isub, 1)) (hz : x - y = z) (k : ce_WP ρ Y kc ks (pc + 1) L (.int z :: st) σ g Q X) : ce_WP ρ Y kc ks pc L (.int y :: .int x :: st) σ g Q X := fun G A p e s m args below meth c H locs ls C I hl => by subst hz; exact lv_isub C.1 C.2.1 d (k G A p e s m args below meth c H locs ls C I hl)
theorem ce_imul {x y z : Int32} (d : decode Y.2.1 pc = .ok (.imul, 1)) (hz : x * y = z) (k : ce_WP ρ Y kc ks (pc + 1) L (.int z :: st) σ g Q X) : ce_WP ρ Y kc ks pc L (.int y :: .int x :: st) σ g Q X := fun G A p e s m args below meth c H locs ls C I hl => by subst hz; exact lv_imul C.1 C.2.1 d (k G A p e s m args below meth c H locs ls C I hl)
theorem ce_iand {x y z : Int32} (d : decode Y.2.1 pc = .ok (.iand, 1)) (hz : x &&& y = z) (k : ce_WP ρ Y kc ks (pc + 1) L (.int z :: st) σ g Q X) : ce_WP ρ Y kc ks pc L (.int y :: .int x :: st) σ g Q X := fun G A p e s m args below meth c H locs ls C I hl => by subst hz; exact lv_iand C.1 C.2.1 d (k G A p e s m args below meth c H locs ls C I hl)
theorem ce_ior {x y z : Int32} (d : decode Y.2.1 pc = .ok (.ior, 1)) (hz : x ||| y = z) (k : ce_WP ρ Y kc ks (pc + 1) L (.int z :: st) σ g Q X) : ce_WP ρ Y kc ks pc L (.int y :: .int x :: st) σ g Q X := fun G A p e s m args below meth c H locs ls C I hl => by subst hz; exact lv_ior C.1 C.2.1 d (k G A p e s m args below meth c H locs ls C I hl)
theorem ce_ixor {x y z : Int32} (d : decode Y.2.1 pc = .ok (.ixor, 1)) (hz : x ^^^ y = z) (k : ce_WP ρ Y kc ks (pc + 1) L (.int z :: st) σ g Q X) : ce_WP ρ Y kc ks pc L (.int y :: .int x :: st) σ g Q X := fun G A p e s m args below meth c H locs ls C I hl => by subst hz; exact lv_ixor C.1 C.2.1 d (k G A p e s m args below meth c H locs ls C I hl)
theorem ce_ishl {x y z : Int32} (d : decode Y.2.1 pc = .ok (.ishl, 1)) (hz : x <<< (y &&& 31) = z) (k : ce_WP ρ Y kc ks (pc + 1) L (.int z :: st) σ g Q X) : ce_WP ρ Y kc ks pc L (.int y :: .int x :: st) σ g Q X := fun G A p e s m args below meth c H locs ls C I hl => by subst hz; exact lv_ishl C.1 C.2.1 d (k G A p e s m args below meth c H locs ls C I hl)
theorem ce_ishr {x y z : Int32} (d : decode Y.2.1 pc = .ok (.ishr, 1)) (hz : x >>> (y &&& 31) = z) (k : ce_WP ρ Y kc ks (pc + 1) L (.int z :: st) σ g Q X) : ce_WP ρ Y kc ks pc L (.int y :: .int x :: st) σ g Q X := fun G A p e s m args below meth c H locs ls C I hl => by subst hz; exact lv_ishr C.1 C.2.1 d (k G A p e s m args below meth c H locs ls C I hl)
theorem ce_ladd {x y z : Int64} (d : decode Y.2.1 pc = .ok (.ladd, 1)) (hz : x + y = z) (k : ce_WP ρ Y kc ks (pc + 1) L (.long z :: st) σ g Q X) : ce_WP ρ Y kc ks pc L (.long y :: .long x :: st) σ g Q X := fun G A p e s m args below meth c H locs ls C I hl => by subst hz; exact lv_ladd C.1 C.2.1 d (k G A p e s m args below meth c H locs ls C I hl)
theorem ce_lsub {x y z : Int64} (d : decode Y.2.1 pc = .ok (.lsub, 1)) (hz : x - y = z) (k : ce_WP ρ Y kc ks (pc + 1) L (.long z :: st) σ g Q X) : ce_WP ρ Y kc ks pc L (.long y :: .long x :: st) σ g Q X := fun G A p e s m args below meth c H locs ls C I hl => by subst hz; exact lv_lsub C.1 C.2.1 d (k G A p e s m args below meth c H locs ls C I hl)
theorem ce_lmul {x y z : Int64} (d : decode Y.2.1 pc = .ok (.lmul, 1)) (hz : x * y = z) (k : ce_WP ρ Y kc ks (pc + 1) L (.long z :: st) σ g Q X) : ce_WP ρ Y kc ks pc L (.long y :: .long x :: st) σ g Q X := fun G A p e s m args below meth c H locs ls C I hl => by subst hz; exact lv_lmul C.1 C.2.1 d (k G A p e s m args below meth c H locs ls C I hl)
theorem ce_land {x y z : Int64} (d : decode Y.2.1 pc = .ok (.land, 1)) (hz : x &&& y = z) (k : ce_WP ρ Y kc ks (pc + 1) L (.long z :: st) σ g Q X) : ce_WP ρ Y kc ks pc L (.long y :: .long x :: st) σ g Q X := fun G A p e s m args below meth c H locs ls C I hl => by subst hz; exact lv_land C.1 C.2.1 d (k G A p e s m args below meth c H locs ls C I hl)
theorem ce_lor {x y z : Int64} (d : decode Y.2.1 pc = .ok (.lor, 1)) (hz : x ||| y = z) (k : ce_WP ρ Y kc ks (pc + 1) L (.long z :: st) σ g Q X) : ce_WP ρ Y kc ks pc L (.long y :: .long x :: st) σ g Q X := fun G A p e s m args below meth c H locs ls C I hl => by subst hz; exact lv_lor C.1 C.2.1 d (k G A p e s m args below meth c H locs ls C I hl)
theorem ce_idiv {x y : Int32} {z : Int32} (d : decode Y.2.1 pc = .ok (.idiv, 1)) (hne : ¬ y = 0) (hz : (x / y) = z) (k : ce_WP ρ Y kc ks (pc + 1) L (.int z :: st) σ g Q X) : ce_WP ρ Y kc ks pc L (.int y :: .int x :: st) σ g Q X := fun G A p e s m args below meth c H locs ls C I hl => by subst hz; exact lv_idiv C.1 C.2.1 d hne (k G A p e s m args below meth c H locs ls C I hl)
theorem ce_irem {x y : Int32} {z : Int32} (d : decode Y.2.1 pc = .ok (.irem, 1)) (hne : ¬ y = 0) (hz : (x - x / y * y) = z) (k : ce_WP ρ Y kc ks (pc + 1) L (.int z :: st) σ g Q X) : ce_WP ρ Y kc ks pc L (.int y :: .int x :: st) σ g Q X := fun G A p e s m args below meth c H locs ls C I hl => by subst hz; exact lv_irem C.1 C.2.1 d hne (k G A p e s m args below meth c H locs ls C I hl)
theorem ce_ldiv {x y : Int64} {z : Int64} (d : decode Y.2.1 pc = .ok (.ldiv, 1)) (hne : ¬ y = 0) (hz : (x / y) = z) (k : ce_WP ρ Y kc ks (pc + 1) L (.long z :: st) σ g Q X) : ce_WP ρ Y kc ks pc L (.long y :: .long x :: st) σ g Q X := fun G A p e s m args below meth c H locs ls C I hl => by subst hz; exact lv_ldiv C.1 C.2.1 d hne (k G A p e s m args below meth c H locs ls C I hl)
theorem ce_lrem {x y : Int64} {z : Int64} (d : decode Y.2.1 pc = .ok (.lrem, 1)) (hne : ¬ y = 0) (hz : (x - x / y * y) = z) (k : ce_WP ρ Y kc ks (pc + 1) L (.long z :: st) σ g Q X) : ce_WP ρ Y kc ks pc L (.long y :: .long x :: st) σ g Q X := fun G A p e s m args below meth c H locs ls C I hl => by subst hz; exact lv_lrem C.1 C.2.1 d hne (k G A p e s m args below meth c H locs ls C I hl)
theorem ce_ineg {x : Int32} {z : Int32} (d : decode Y.2.1 pc = .ok (.ineg, 1))  (hz : (-x) = z) (k : ce_WP ρ Y kc ks (pc + 1) L (.int z :: st) σ g Q X) : ce_WP ρ Y kc ks pc L (.int x :: st) σ g Q X := fun G A p e s m args below meth c H locs ls C I hl => by subst hz; exact lv_ineg C.1 C.2.1 d  (k G A p e s m args below meth c H locs ls C I hl)
theorem ce_lshl {x v : Int64} {y : Int32} (d : decode Y.2.1 pc = .ok (.lshl, 1)) (hv : x <<< (y.toInt64 &&& 63) = v) (k : ce_WP ρ Y kc ks (pc + 1) L (.long v :: st) σ g Q X) : ce_WP ρ Y kc ks pc L (.int y :: .long x :: st) σ g Q X := fun G A p e s m args below meth c H locs ls C I hl => lv_lshl C.1 C.2.1 d hv (k G A p e s m args below meth c H locs ls C I hl)
theorem ce_lushr {x v : Int64} {y : Int32} (d : decode Y.2.1 pc = .ok (.lushr, 1)) (hv : (x.toUInt64 >>> (y.toInt64.toUInt64 &&& Int64.toUInt64 63)).toInt64 = v) (k : ce_WP ρ Y kc ks (pc + 1) L (.long v :: st) σ g Q X) : ce_WP ρ Y kc ks pc L (.int y :: .long x :: st) σ g Q X := fun G A p e s m args below meth c H locs ls C I hl => lv_lushr C.1 C.2.1 d hv (k G A p e s m args below meth c H locs ls C I hl)
theorem ce_iushr {x y v : Int32} (d : decode Y.2.1 pc = .ok (.iushr, 1)) (hv : (x.toUInt32 >>> (y.toUInt32 &&& Int32.toUInt32 31)).toInt32 = v) (k : ce_WP ρ Y kc ks (pc + 1) L (.int v :: st) σ g Q X) : ce_WP ρ Y kc ks pc L (.int y :: .int x :: st) σ g Q X := fun G A p e s m args below meth c H locs ls C I hl => lv_iushr C.1 C.2.1 d hv (k G A p e s m args below meth c H locs ls C I hl)
theorem ce_i2l {x : Int32} {v : Int64} (d : decode Y.2.1 pc = .ok (.i2l, 1)) (hv : x.toInt64 = v) (k : ce_WP ρ Y kc ks (pc + 1) L (.long v :: st) σ g Q X) : ce_WP ρ Y kc ks pc L (.int x :: st) σ g Q X := fun G A p e s m args below meth c H locs ls C I hl => lv_i2l C.1 C.2.1 d hv (k G A p e s m args below meth c H locs ls C I hl)
theorem ce_l2i {x : Int64} {v : Int32} (d : decode Y.2.1 pc = .ok (.l2i, 1)) (hv : x.toInt32 = v) (k : ce_WP ρ Y kc ks (pc + 1) L (.int v :: st) σ g Q X) : ce_WP ρ Y kc ks pc L (.long x :: st) σ g Q X := fun G A p e s m args below meth c H locs ls C I hl => lv_l2i C.1 C.2.1 d hv (k G A p e s m args below meth c H locs ls C I hl)
theorem ce_i2c {x : Int32} {v : Int32} (d : decode Y.2.1 pc = .ok (.i2c, 1)) (hv : (x.toUInt32 % 65536).toInt32 = v) (k : ce_WP ρ Y kc ks (pc + 1) L (.int v :: st) σ g Q X) : ce_WP ρ Y kc ks pc L (.int x :: st) σ g Q X := fun G A p e s m args below meth c H locs ls C I hl => lv_i2c C.1 C.2.1 d hv (k G A p e s m args below meth c H locs ls C I hl)
theorem ce_lcmp {x y : Int64} {z : Int32} (d : decode Y.2.1 pc = .ok (.lcmp, 1)) (hz : lg_cmp x y = z) (k : ce_WP ρ Y kc ks (pc + 1) L (.int z :: st) σ g Q X) : ce_WP ρ Y kc ks pc L (.long y :: .long x :: st) σ g Q X := fun G A p e s m args below meth c H locs ls C I hl => by subst hz; exact W.lcmp C.1 C.2.1 d (k G A p e s m args below meth c H locs ls C I hl)
theorem ce_dup {v : Value} (d : decode Y.2.1 pc = .ok (.dup, 1)) (hv : v.category = 1) (k : ce_WP ρ Y kc ks (pc + 1) L (v :: v :: st) σ g Q X) : ce_WP ρ Y kc ks pc L (v :: st) σ g Q X := fun G A p e s m args below meth c H locs ls C I hl => lv_dup C.1 C.2.1 d hv (k G A p e s m args below meth c H locs ls C I hl)
theorem ce_pop {v : Value} (d : decode Y.2.1 pc = .ok (.pop, 1)) (hv : v.category = 1) (k : ce_WP ρ Y kc ks (pc + 1) L st σ g Q X) : ce_WP ρ Y kc ks pc L (v :: st) σ g Q X := fun G A p e s m args below meth c H locs ls C I hl => lv_pop C.1 C.2.1 d hv (k G A p e s m args below meth c H locs ls C I hl)
theorem ce_dup2 {v w : Value} (d : decode Y.2.1 pc = .ok (.dup2, 1)) (hv : v.category = 1) (hw : w.category = 1) (k : ce_WP ρ Y kc ks (pc + 1) L (v :: w :: v :: w :: st) σ g Q X) : ce_WP ρ Y kc ks pc L (v :: w :: st) σ g Q X := fun G A p e s m args below meth c H locs ls C I hl => lv_dup2_11 C.1 C.2.1 d hv hw (k G A p e s m args below meth c H locs ls C I hl)
theorem ce_if_eq {x : Int32} {off : Int} {tgt : Nat} (d : decode Y.2.1 pc = .ok (.ifCond .eq off, 3)) (ht : (pc : Int) + off = (tgt : Int)) (kt : x = 0 → ce_WP ρ Y kc ks tgt L st σ g Q X) (kf : ¬ x = 0 → ce_WP ρ Y kc ks (pc + 3) L st σ g Q X) : ce_WP ρ Y kc ks pc L (.int x :: st) σ g Q X := fun G A p e s m args below meth c H locs ls C I hl => lv_if_eq C.1 C.2.1 d ht (fun q => kt q G A p e s m args below meth c H locs ls C I hl) (fun q => kf q G A p e s m args below meth c H locs ls C I hl)
theorem ce_icmp_eq {x y : Int32} {off : Int} {tgt : Nat} (d : decode Y.2.1 pc = .ok (.if_icmp .eq off, 3)) (ht : (pc : Int) + off = (tgt : Int)) (kt : x = y → ce_WP ρ Y kc ks tgt L st σ g Q X) (kf : ¬ x = y → ce_WP ρ Y kc ks (pc + 3) L st σ g Q X) : ce_WP ρ Y kc ks pc L (.int y :: .int x :: st) σ g Q X := fun G A p e s m args below meth c H locs ls C I hl => lv_icmp_eq C.1 C.2.1 d ht (fun q => kt q G A p e s m args below meth c H locs ls C I hl) (fun q => kf q G A p e s m args below meth c H locs ls C I hl)
theorem ce_if_ne {x : Int32} {off : Int} {tgt : Nat} (d : decode Y.2.1 pc = .ok (.ifCond .ne off, 3)) (ht : (pc : Int) + off = (tgt : Int)) (kt : ¬ x = 0 → ce_WP ρ Y kc ks tgt L st σ g Q X) (kf : x = 0 → ce_WP ρ Y kc ks (pc + 3) L st σ g Q X) : ce_WP ρ Y kc ks pc L (.int x :: st) σ g Q X := fun G A p e s m args below meth c H locs ls C I hl => lv_if_ne C.1 C.2.1 d ht (fun q => kt q G A p e s m args below meth c H locs ls C I hl) (fun q => kf q G A p e s m args below meth c H locs ls C I hl)
theorem ce_icmp_ne {x y : Int32} {off : Int} {tgt : Nat} (d : decode Y.2.1 pc = .ok (.if_icmp .ne off, 3)) (ht : (pc : Int) + off = (tgt : Int)) (kt : ¬ x = y → ce_WP ρ Y kc ks tgt L st σ g Q X) (kf : x = y → ce_WP ρ Y kc ks (pc + 3) L st σ g Q X) : ce_WP ρ Y kc ks pc L (.int y :: .int x :: st) σ g Q X := fun G A p e s m args below meth c H locs ls C I hl => lv_icmp_ne C.1 C.2.1 d ht (fun q => kt q G A p e s m args below meth c H locs ls C I hl) (fun q => kf q G A p e s m args below meth c H locs ls C I hl)
theorem ce_if_lt {x : Int32} {off : Int} {tgt : Nat} (d : decode Y.2.1 pc = .ok (.ifCond .lt off, 3)) (ht : (pc : Int) + off = (tgt : Int)) (kt : x < 0 → ce_WP ρ Y kc ks tgt L st σ g Q X) (kf : ¬ x < 0 → ce_WP ρ Y kc ks (pc + 3) L st σ g Q X) : ce_WP ρ Y kc ks pc L (.int x :: st) σ g Q X := fun G A p e s m args below meth c H locs ls C I hl => lv_if_lt C.1 C.2.1 d ht (fun q => kt q G A p e s m args below meth c H locs ls C I hl) (fun q => kf q G A p e s m args below meth c H locs ls C I hl)
theorem ce_icmp_lt {x y : Int32} {off : Int} {tgt : Nat} (d : decode Y.2.1 pc = .ok (.if_icmp .lt off, 3)) (ht : (pc : Int) + off = (tgt : Int)) (kt : x < y → ce_WP ρ Y kc ks tgt L st σ g Q X) (kf : ¬ x < y → ce_WP ρ Y kc ks (pc + 3) L st σ g Q X) : ce_WP ρ Y kc ks pc L (.int y :: .int x :: st) σ g Q X := fun G A p e s m args below meth c H locs ls C I hl => lv_icmp_lt C.1 C.2.1 d ht (fun q => kt q G A p e s m args below meth c H locs ls C I hl) (fun q => kf q G A p e s m args below meth c H locs ls C I hl)
theorem ce_if_ge {x : Int32} {off : Int} {tgt : Nat} (d : decode Y.2.1 pc = .ok (.ifCond .ge off, 3)) (ht : (pc : Int) + off = (tgt : Int)) (kt : 0 ≤ x → ce_WP ρ Y kc ks tgt L st σ g Q X) (kf : ¬ 0 ≤ x → ce_WP ρ Y kc ks (pc + 3) L st σ g Q X) : ce_WP ρ Y kc ks pc L (.int x :: st) σ g Q X := fun G A p e s m args below meth c H locs ls C I hl => lv_if_ge C.1 C.2.1 d ht (fun q => kt q G A p e s m args below meth c H locs ls C I hl) (fun q => kf q G A p e s m args below meth c H locs ls C I hl)
theorem ce_icmp_ge {x y : Int32} {off : Int} {tgt : Nat} (d : decode Y.2.1 pc = .ok (.if_icmp .ge off, 3)) (ht : (pc : Int) + off = (tgt : Int)) (kt : y ≤ x → ce_WP ρ Y kc ks tgt L st σ g Q X) (kf : ¬ y ≤ x → ce_WP ρ Y kc ks (pc + 3) L st σ g Q X) : ce_WP ρ Y kc ks pc L (.int y :: .int x :: st) σ g Q X := fun G A p e s m args below meth c H locs ls C I hl => lv_icmp_ge C.1 C.2.1 d ht (fun q => kt q G A p e s m args below meth c H locs ls C I hl) (fun q => kf q G A p e s m args below meth c H locs ls C I hl)
theorem ce_if_gt {x : Int32} {off : Int} {tgt : Nat} (d : decode Y.2.1 pc = .ok (.ifCond .gt off, 3)) (ht : (pc : Int) + off = (tgt : Int)) (kt : 0 < x → ce_WP ρ Y kc ks tgt L st σ g Q X) (kf : ¬ 0 < x → ce_WP ρ Y kc ks (pc + 3) L st σ g Q X) : ce_WP ρ Y kc ks pc L (.int x :: st) σ g Q X := fun G A p e s m args below meth c H locs ls C I hl => lv_if_gt C.1 C.2.1 d ht (fun q => kt q G A p e s m args below meth c H locs ls C I hl) (fun q => kf q G A p e s m args below meth c H locs ls C I hl)
theorem ce_icmp_gt {x y : Int32} {off : Int} {tgt : Nat} (d : decode Y.2.1 pc = .ok (.if_icmp .gt off, 3)) (ht : (pc : Int) + off = (tgt : Int)) (kt : y < x → ce_WP ρ Y kc ks tgt L st σ g Q X) (kf : ¬ y < x → ce_WP ρ Y kc ks (pc + 3) L st σ g Q X) : ce_WP ρ Y kc ks pc L (.int y :: .int x :: st) σ g Q X := fun G A p e s m args below meth c H locs ls C I hl => lv_icmp_gt C.1 C.2.1 d ht (fun q => kt q G A p e s m args below meth c H locs ls C I hl) (fun q => kf q G A p e s m args below meth c H locs ls C I hl)
theorem ce_if_le {x : Int32} {off : Int} {tgt : Nat} (d : decode Y.2.1 pc = .ok (.ifCond .le off, 3)) (ht : (pc : Int) + off = (tgt : Int)) (kt : x ≤ 0 → ce_WP ρ Y kc ks tgt L st σ g Q X) (kf : ¬ x ≤ 0 → ce_WP ρ Y kc ks (pc + 3) L st σ g Q X) : ce_WP ρ Y kc ks pc L (.int x :: st) σ g Q X := fun G A p e s m args below meth c H locs ls C I hl => lv_if_le C.1 C.2.1 d ht (fun q => kt q G A p e s m args below meth c H locs ls C I hl) (fun q => kf q G A p e s m args below meth c H locs ls C I hl)
theorem ce_icmp_le {x y : Int32} {off : Int} {tgt : Nat} (d : decode Y.2.1 pc = .ok (.if_icmp .le off, 3)) (ht : (pc : Int) + off = (tgt : Int)) (kt : x ≤ y → ce_WP ρ Y kc ks tgt L st σ g Q X) (kf : ¬ x ≤ y → ce_WP ρ Y kc ks (pc + 3) L st σ g Q X) : ce_WP ρ Y kc ks pc L (.int y :: .int x :: st) σ g Q X := fun G A p e s m args below meth c H locs ls C I hl => lv_icmp_le C.1 C.2.1 d ht (fun q => kt q G A p e s m args below meth c H locs ls C I hl) (fun q => kf q G A p e s m args below meth c H locs ls C I hl)
theorem ce_goto {off : Int} {tgt : Nat} (d : decode Y.2.1 pc = .ok (.goto off, 3)) (ht : (pc : Int) + off = (tgt : Int)) (k : ce_WP ρ Y kc ks tgt L st σ g Q X) : ce_WP ρ Y kc ks pc L st σ g Q X := fun G A p e s m args below meth c H locs ls C I hl => lv_goto C.1 C.2.1 d ht (k G A p e s m args below meth c H locs ls C I hl)
theorem ce_lookup {dflt : Int} {ps : Array (Int × Int)} {len : Nat} {x : Int32} {off : Int} {tgt : Nat} (d : decode Y.2.1 pc = .ok (.lookupswitch dflt ps, len)) (hp : (ps.toList.zip (ps.toList.drop 1)).all (fun (a, next) => a.1 < next.1) = true) (ho : Op.lookupswitch.offset ps.toList dflt x.toInt = off) (ht : (pc : Int) + off = (tgt : Int)) (k : ce_WP ρ Y kc ks tgt L st σ g Q X) : ce_WP ρ Y kc ks pc L (.int x :: st) σ g Q X := fun G A p e s m args below meth c H locs ls C I hl => lv_lookup C.1 C.2.1 d hp ho ht (k G A p e s m args below meth c H locs ls C I hl)
theorem ce_tableOut {dflt lo hi : Int} {offs : Array Int} {len : Nat} {x : Int32} {tgt : Nat} (d : decode Y.2.1 pc = .ok (.tableswitch dflt lo hi offs, len)) (h : x.toInt < lo ∨ hi < x.toInt) (ht : (pc : Int) + dflt = (tgt : Int)) (k : ce_WP ρ Y kc ks tgt L st σ g Q X) : ce_WP ρ Y kc ks pc L (.int x :: st) σ g Q X := fun G A p e s m args below meth c H locs ls C I hl => lv_tableOut C.1 C.2.1 d h ht (k G A p e s m args below meth c H locs ls C I hl)
theorem ce_tableIn {dflt lo hi : Int} {offs : Array Int} {len : Nat} {x : Int32} {off : Int} {tgt : Nat} (d : decode Y.2.1 pc = .ok (.tableswitch dflt lo hi offs, len)) (h1 : ¬ x.toInt < lo) (h2 : ¬ hi < x.toInt) (ho : offs[(x.toInt - lo).toNat]? = some off) (ht : (pc : Int) + off = (tgt : Int)) (k : ce_WP ρ Y kc ks tgt L st σ g Q X) : ce_WP ρ Y kc ks pc L (.int x :: st) σ g Q X := fun G A p e s m args below meth c H locs ls C I hl => lv_tableIn C.1 C.2.1 d h1 h2 ho ht (k G A p e s m args below meth c H locs ls C I hl)
theorem ce_ldc {i : Nat} {v : Int32} (d : decode Y.2.1 pc = .ok (.ldc i, 2)) (hm : Cond.constant Y.1.cls i v ∈ lw_tbl) (k : ce_WP ρ Y kc ks (pc + 2) L (.int v :: st) σ g Q X) : ce_WP ρ Y kc ks pc L st σ g Q X := fun G A p e s m args below meth c H locs ls C I hl => lv_ldc C.1 C.2.1 C.2.2.2.2.2.1 (C.2.2.2.2.2.2.1 _ (ce_gw_in hm rfl Y)) d (k G A p e s m args below meth c H locs ls C I hl)
theorem ce_ldcw {i : Nat} {v : Int32} (d : decode Y.2.1 pc = .ok (.ldc_w i, 3)) (hm : Cond.constant Y.1.cls i v ∈ lw_tbl) (k : ce_WP ρ Y kc ks (pc + 3) L (.int v :: st) σ g Q X) : ce_WP ρ Y kc ks pc L st σ g Q X := fun G A p e s m args below meth c H locs ls C I hl => lv_ldcw C.1 C.2.1 C.2.2.2.2.2.1 (C.2.2.2.2.2.2.1 _ (ce_gw_in hm rfl Y)) d (k G A p e s m args below meth c H locs ls C I hl)
theorem ce_ldc2 {i : Nat} {v : Int64} (d : decode Y.2.1 pc = .ok (.ldc2_w i, 3)) (hm : Cond.constantLong Y.1.cls i v ∈ lw_tbl) (k : ce_WP ρ Y kc ks (pc + 3) L (.long v :: st) σ g Q X) : ce_WP ρ Y kc ks pc L st σ g Q X := fun G A p e s m args below meth c H locs ls C I hl => lv_ldc2 C.1 C.2.1 C.2.2.2.2.2.1 (C.2.2.2.2.2.2.1 _ (ce_gw_in hm rfl Y)) d (k G A p e s m args below meth c H locs ls C I hl)
end CEB
end
section
section CEC
variable {ρ : Room} {Y : ce_Y} {kc ks pc : Nat} {L : List (Option Value)} {st : List Value} {σ : ce_S} {g : ce_D} {Q : Option Value → ce_S → ce_D → Prop} {X : String → ce_S → ce_D → Prop}
/-- an int is written -/
def ce_up (g : ce_D) (a k : Nat) (x : Int32) : ce_D := fun b => if b = a then upd (g a) k x else g b
def ce_upR (σ : ce_S) (a k : Nat) (r : Option Nat) : ce_S := (σ.1, σ.2.1, σ.2.2.1, (fun b => if b = a then (fun j => if j = k then r else ce_gr σ a j) else ce_gr σ b), σ.2.2.2.2)
def ce_upL (σ : ce_S) (a k : Nat) (x : Int64) : ce_S := (σ.1, σ.2.1, σ.2.2.1, σ.2.2.2.1, (fun b => if b = a then (fun j => if j = k then x else ce_gl σ a j) else ce_gl σ b))
theorem ce_up_eq (g : ce_D) (a k : Nat) (x : Int32) : ce_up g a k x a = upd (g a) k x := if_pos rfl
theorem ce_up_ne (g : ce_D) {a b : Nat} (k : Nat) (x : Int32) (h : b ≠ a) : ce_up g a k x b = g b := if_neg h
theorem ce_up_at (g : ce_D) (a k : Nat) (x : Int32) : ce_up g a k x a k = x := by rw [ce_up_eq]; exact if_pos rfl
/-- what the classes' tables say -/
theorem ce_cls : ∀ (ci : Nat) (r : vw_C), vwCl[ci]? = some r → (∃ ty : Nat → FieldType, ∀ k, k < r.2.2 → parseFieldDescriptor (r.2.1 k).2.2.1 = some (ty k)) ∧ (∀ a, a < r.2.2 → ∀ b, b < r.2.2 → a ≠ b → (r.2.1 a).2.1 ≠ (r.2.1 b).2.1) ∧ (∀ w ∈ u_ws r.1 r.2.1 r.2.2, w ∈ lw_tbl)
  | 0, _, h => by cases h; exact ⟨⟨_, tyX0_ok⟩, nmX0, inX0⟩
  | 1, _, h => by cases h; exact ⟨⟨_, tyX1_ok⟩, nmX1, inX1⟩
  | 2, _, h => by cases h; exact ⟨⟨_, tyX2_ok⟩, nmX2, inX2⟩
  | 3, _, h => by cases h; exact ⟨⟨_, tyX3_ok⟩, nmX3, inX3⟩
  | 4, _, h => by cases h; exact ⟨⟨_, tyX4_ok⟩, nmX4, inX4⟩
  | 5, _, h => by cases h; exact ⟨⟨_, tyX5_ok⟩, nmX5, inX5⟩
  | 6, _, h => by cases h; exact ⟨⟨_, tyX6_ok⟩, nmX6, inX6⟩
  | 7, _, h => by cases h; exact ⟨⟨_, tyX7_ok⟩, nmX7, inX7⟩
  | 8, _, h => by cases h; exact ⟨⟨_, tyX8_ok⟩, nmX8, inX8⟩
  | n + 9, _, h => by simp [vwCl] at h
theorem ce_uin {C : String} {T : u_T} {N : Nat} (h : ∀ w ∈ u_ws C T N, w ∈ lw_tbl) (Y : ce_Y) : ∀ w ∈ u_ws C T N, w ∈ ce_ws Y := by
  intro w hw
  refine ce_gw_in (h w hw) ?_ Y
  obtain ⟨k, -, rfl⟩ := List.mem_map.mp hw
  unfold u_lay
  split <;> rfl
/-- the field k of class ci is what own's entry idx names -/
def ce_FL (own : String) (idx ci k : Nat) : Prop := ∃ (C : String) (T : u_T) (N : Nat), vwCl[ci]? = some (C, T, N) ∧ k < N ∧ (T k).1 = C ∧
  (Cond.fieldLink own idx C (T k).2.1 (T k).2.2.1 ∈ lw_tbl ∨ ∃ host, Cond.fieldLinkNest own idx C (T k).2.1 (T k).2.2.1 host ∈ lw_tbl)
theorem ce_getf {i ci k a : Nat} {v : Value} (d : decode Y.2.1 pc = .ok (.getfield i, 3)) (hf : ce_FL Y.1.cls i ci k) (hk : ce_kd σ a = ci + 1) (hv : ce_fv σ g ci a k = v) (kk : ce_WP ρ Y kc ks (pc + 3) L (v :: st) σ g Q X) : ce_WP ρ Y kc ks pc L (.ref a :: st) σ g Q X := by
  intro G A p e s m args below meth c H locs ls C I hl
  have kk := kk G A p e s m args below meth c H locs ls C I hl
  obtain ⟨hx, hb, hml, hr, hlk, hown, hts, hK, hZ, hnm, htab⟩ := C
  obtain ⟨Cn, T, N, hc, hkN, hT1, hlink⟩ := hf
  have hin := ce_uin (ce_cls ci _ hc).2.2 Y
  obtain ⟨h1, -⟩ := (I.1 a (by omega)).2
  obtain ⟨cell, q1, q2, q3, q4⟩ := h1 ci _ hk hc
  obtain ⟨hS, hfc, kC, hkC, hkind⟩ := hK.1.1 ci _ hc
  obtain ⟨cf, kf, fi, f, hi, hsl⟩ := hS k hkN
  have hst := (u_facts hfc hkC (u_lays hts hin hkN) hi).1
  have hi' : s.fieldFound? Cn (T k).2.1 (T k).2.2.1 = some (cf, kf, fi, f) := by rw [← hi, hT1]
  rcases hlink with hlink | ⟨host, hlink⟩
  · exact W.getf hx hb hown (hts _ (ce_gw_in hlink rfl Y)) hi' hst q1 (by rw [q3]; exact fun h => by cases h) (v := v) (by rw [hsl, q4 k hkN, hv]) rfl rfl d kk
  · exact va_Wgetf hx hb hown (va_Nw.use rfl (hK.2.1 _ hlink rfl)) hi' hst q1 (by rw [q3]; exact fun h => by cases h) (v := v) (by rw [hsl, q4 k hkN, hv]) rfl rfl d kk
def ce_FI (own : String) (idx ci k : Nat) : Prop := ce_FL own idx ci k ∧ ce_rty ci k = false
def ce_FR (own : String) (idx ci k : Nat) : Prop := ce_FL own idx ci k ∧ ce_rty ci k = true
theorem ce_getI {i ci k a : Nat} (d : decode Y.2.1 pc = .ok (.getfield i, 3)) (hf : ce_FI Y.1.cls i ci k) (hk : ce_kd σ a = ci + 1) (kk : ce_WP ρ Y kc ks (pc + 3) L (.int (g a k) :: st) σ g Q X) : ce_WP ρ Y kc ks pc L (.ref a :: st) σ g Q X :=
  ce_getf d hf.1 hk (by unfold ce_fv; rw [hf.2]; rfl) kk
theorem ce_getR {i ci k a b : Nat} (d : decode Y.2.1 pc = .ok (.getfield i, 3)) (hf : ce_FR Y.1.cls i ci k) (hk : ce_kd σ a = ci + 1) (hv : ce_gr σ a k = some b) (kk : ce_WP ρ Y kc ks (pc + 3) L (.ref b :: st) σ g Q X) : ce_WP ρ Y kc ks pc L (.ref a :: st) σ g Q X :=
  ce_getf d hf.1 hk (by unfold ce_fv; rw [hf.2, if_pos rfl, hv]; rfl) kk
/-- behind a write to the cell a -/
theorem ce_I_put {G : ce_G} {A : Nat → Prop} {s : State} {σ σ' : ce_S} {g g' : ce_D} {H H1 : Heap} {locs : List Loc} {a k : Nat} (I : ce_I G A s σ g H locs) (ha : ce_kd σ a ≠ 0) (z : H1.size = H.size) (oq : ∀ q : Nat, q ≠ a → H1[q]? = H[q]?)
    (e0 : ce_tp σ' = ce_tp σ) (e1 : ce_kd σ' = ce_kd σ) (e2 : ce_ln σ' = ce_ln σ) (e3 : ∀ b, b ≠ a → ce_gr σ' b = ce_gr σ b) (e4 : ∀ b, b ≠ a → ce_gl σ' b = ce_gl σ b) (e5 : ∀ b, b ≠ a → g' b = g b) (hc : ce_cell G σ' g' H1 a) : ce_I G A s σ' g' H1 (locs ++ [⟨a, k⟩]) := by
  refine ⟨fun b hb => ?_, by rw [z, e0]; exact I.2.1, I.2.2.1.put z oq (I.2.2.2.2 a ha), I.2.2.2.1, fun q hq => I.2.2.2.2 q (by rw [← e1]; exact hq)⟩
  have hb' : ce_kd σ b ≠ 0 := by rw [← e1]; exact hb
  refine ⟨by rw [e1]; exact (I.1 b hb').1, ?_⟩
  by_cases hba : b = a
  · rw [hba]; exact hc
  · exact ce_cell_kept (I.1 b hb').2 (oq b hba) (by rw [e1]) (by rw [e2]) (e3 b hba) (e4 b hba) (e5 b hba)
theorem ce_fv_up (σ : ce_S) (g : ce_D) {ci a k : Nat} {x : Int32} (hr : ce_rty ci k = false) (j : Nat) : updV (ce_fv σ g ci a) k (.int x) j = ce_fv σ (ce_up g a k x) ci a j := by
  unfold updV ce_fv
  by_cases hj : j = k
  · subst hj
    rw [if_pos rfl, hr, ce_up_at]; rfl
  · rw [if_neg hj, ce_up_eq]
    show _ = if _ then _ else Value.int (if j = k then x else g a j)
    rw [if_neg hj]
theorem ce_upR_eq (σ : ce_S) (a k : Nat) (r : Option Nat) (j : Nat) : ce_gr (ce_upR σ a k r) a j = if j = k then r else ce_gr σ a j := by
  show (if a = a then (fun j => if j = k then r else ce_gr σ a j) else ce_gr σ a) j = _
  rw [if_pos rfl]
theorem ce_upR_ne (σ : ce_S) {a b : Nat} (k : Nat) (r : Option Nat) (h : b ≠ a) : ce_gr (ce_upR σ a k r) b = ce_gr σ b := if_neg h
theorem ce_fv_upR (σ : ce_S) (g : ce_D) {ci a k : Nat} {r : Option Nat} (hr : ce_rty ci k = true) (j : Nat) : updV (ce_fv σ g ci a) k (va_rf r) j = ce_fv (ce_upR σ a k r) g ci a j := by
  unfold updV ce_fv
  rw [ce_upR_eq]
  by_cases hj : j = k
  · subst hj
    rw [if_pos rfl, hr, if_pos rfl, if_pos rfl]
  · rw [if_neg hj, if_neg hj]
/-- a field of a kind that can be written: not final -/
def ce_PI (own : String) (idx ci k : Nat) (ty : FieldType) : Prop := ce_FI own idx ci k ∧ ∃ (r : vw_C), vwCl[ci]? = some r ∧ (r.2.1 k).2.2.2 = false ∧ parseFieldDescriptor (r.2.1 k).2.2.1 = some ty
theorem ce_cell_fld {G : ce_G} {σ' : ce_S} {g' : ce_D} {H : Heap} {a ci : Nat} (hk : ce_kd σ' a = ci + 1) {r : vw_C} (hc : vwCl[ci]? = some r) (h : t_OB a (G.2.1.1 ci) r.2.2 (G.2.1.2 ci) H (ce_fv σ' g' ci a)) : ce_cell G σ' g' H a := by
  have hci : ci < 9 := (List.getElem?_eq_some_iff.mp hc).1
  refine ⟨fun c2 r2 h2 hr2 => ?_, fun h2 => by omega, fun h2 => by omega, fun h2 => by omega, fun h2 => by omega, fun h2 => by omega⟩
  have : c2 = ci := by omega
  subst this
  cases hc.symm.trans hr2
  exact h
theorem ce_putI {i ci k a : Nat} {x : Int32} {ty : FieldType} (d : decode Y.2.1 pc = .ok (.putfield i, 3)) (hf : ce_PI Y.1.cls i ci k ty) (hk : ce_kd σ a = ci + 1) (hn : narrow ty (.int x) = .int x) (hfit : fits ty (.int x) = true) (kk : ce_WP ρ Y kc ks (pc + 3) L st σ (ce_up g a k x) Q X) : ce_WP ρ Y kc ks pc L (.int x :: .ref a :: st) σ g Q X := by
  intro G A p e s m args below meth c H locs ls C I hl
  have kk := fun H1 locs1 I1 => kk G A p e s m args below meth c H1 locs1 ls C I1 hl
  obtain ⟨hx, hb, hml, hr, hlk, hown, hts, hK, hZ, hnm, htab⟩ := C
  obtain ⟨⟨⟨Cn, T, N, hc, hkN, hT1, hlink⟩, hrt⟩, r, hcr, hfin, hdesc⟩ := hf
  cases hc.symm.trans hcr
  obtain ⟨⟨ty0, hty⟩, hdis, hin0⟩ := ce_cls ci _ hc
  have hin := ce_uin hin0 Y
  have hap := va_apart (own := Y.1.cls) hts hin ty0 hty hdis hK.1 hc
  obtain ⟨h1, -⟩ := (I.1 a (by omega)).2
  obtain ⟨cell, q1, q2, q3, q4⟩ := h1 ci _ hk hc
  obtain ⟨hS, hfc, kC, hkC, hkind⟩ := hK.1.1 ci _ hc
  obtain ⟨cf, kf, fi, f, hi, hsl⟩ := hS k hkN
  have hlay := hts _ (hin _ (u_in_lay hkN))
  unfold u_lay at hlay
  rw [if_neg (by rw [hfin]; decide)] at hlay
  have hst := (u_facts hfc hkC (u_lays hts hin hkN) hi).1
  have h6 := u_store hfc hkC hkind hlay hi hdesc hn hfit
  have hi' : s.fieldFound? Cn (T k).2.1 (T k).2.2.1 = some (cf, kf, fi, f) := by rw [← hi, hT1]
  have fin : ∀ H' : Heap, H'[a]? = some (cell.setSlot f.slot (.int x)) → H'.size = H.size → (∀ q, q ≠ a → H'[q]? = H[q]?) → W p G.1 e ρ s m args below meth c H' (locs ++ [⟨a, f.slot⟩]) kc ks (vx_MQ below (ce_Q G Q A) (ce_X G X A) args s ρ.cells ρ.slots A) (F0 m (pc + 3) ls st) := by
    intro H' e1 e2 e3
    refine kk H' _ (ce_I_put I (by omega) e2 e3 rfl rfl rfl (fun _ _ => rfl) (fun _ _ => rfl) (fun b hb => ce_up_ne g k x hb) (ce_cell_fld hk hc ?_))
    rw [hsl] at e1
    exact t_OB.to (V := updV (ce_fv σ g ci a) k (.int x)) ⟨_, e1, q2, q3, t_set q4 hap hkN _⟩ (fun j _ => ce_fv_up σ g hrt j)
  rcases hlink with hlink | ⟨host, hlink⟩
  · exact W.putK hx hb (f := f) ⟨hown, hts _ (ce_gw_in hlink rfl Y), ⟨_, _, _, hi'⟩, hst⟩ (by rw [q2]; exact h6) q1 q3 (by rw [hsl]; exact k2_hasslot (q4 k hkN)) rfl rfl d fin
  · exact va_WputK hx hb (f := f) hown (va_Nw.use rfl (hK.2.1 _ hlink rfl)) hi' hst (by rw [q2]; exact h6) q1 q3 (by rw [hsl]; exact k2_hasslot (q4 k hkN)) rfl rfl d fin
/-- a final field of references in a constructor -/
def ce_PF (own : String) (idx ci k : Nat) : Prop := ce_FR own idx ci k ∧ ∃ (C : String) (T : u_T) (N : Nat) (ty : FieldType), vwCl[ci]? = some (C, T, N) ∧ k < N ∧ C = own ∧ (T k).1 = own ∧ (T k).2.2.2 = true ∧ parseFieldDescriptor (T k).2.2.1 = some ty ∧ (∀ b, narrow ty (.ref b) = .ref b ∧ fits ty (.ref b) = true) ∧ Cond.fieldLink own idx C (T k).2.1 (T k).2.2.1 ∈ lw_tbl
theorem ce_putF {i ci k a b : Nat} (d : decode Y.2.1 pc = .ok (.putfield i, 3)) (hf : ce_PF Y.1.cls i ci k) (hk : ce_kd σ a = ci + 1) (hin2 : Y.1.name = "<init>") (kk : ce_WP ρ Y kc ks (pc + 3) L st (ce_upR σ a k (some b)) g Q X) : ce_WP ρ Y kc ks pc L (.ref b :: .ref a :: st) σ g Q X := by
  intro G A p e s m args below meth c H locs ls C I hl
  have kk := fun H1 locs1 I1 => kk G A p e s m args below meth c H1 locs1 ls C I1 hl
  obtain ⟨hx, hb, hml, hr, hlk, hown, hts, hK, hZ, hnm, htab⟩ := C
  obtain ⟨⟨-, hrt⟩, Cn, T, N, ty, hc, hkN, hCn, hT1, hfin, hdesc, hnf, hlink⟩ := hf
  obtain ⟨⟨ty0, hty⟩, hdis, hin0⟩ := ce_cls ci _ hc
  have hin := ce_uin hin0 Y
  have hap := va_apart (own := Y.1.cls) hts hin ty0 hty hdis hK.1 hc
  obtain ⟨h1, -⟩ := (I.1 a (by omega)).2
  obtain ⟨cell, q1, q2, q3, q4⟩ := h1 ci _ hk hc
  obtain ⟨hS, hfc, kC, hkC, hkind⟩ := hK.1.1 ci _ hc
  obtain ⟨cf, kf, fi, f, hi, hsl⟩ := hS k hkN
  have hlay := hts _ (hin _ (u_in_lay hkN))
  unfold u_lay at hlay
  rw [if_pos hfin] at hlay
  have hst := (u_facts hfc hkC (u_lays hts hin hkN) hi).1
  have hcf : m.cls = cf := by
    obtain ⟨_, _, c', _, _, _, -, -, hf', -, -, -, hown2, -⟩ := Cond.laysFinal_spec hlay
    have e1 : c' = cf := by have := hi.symm.trans hf'; simp at this; exact this.1.symm
    rw [hT1] at hown2
    rw [← e1]; exact Option.some.inj (hown.symm.trans hown2)
  have h6 := u_fits hfc hkC hkind (Or.inr hlay) hi hdesc (hnf b).1 (hnf b).2
  have hi' : s.fieldFound? Cn (T k).2.1 (T k).2.2.1 = some (cf, kf, fi, f) := by rw [← hi, hT1, hCn]
  refine W.putFinK hx hb hown (hts _ (ce_gw_in hlink rfl Y)) hi' hst hcf (hnm.trans hin2) (by rw [q2]; exact h6) q1 q3 (by rw [hsl]; exact k2_hasslot (q4 k hkN)) rfl rfl d fun H' e1 e2 e3 => ?_
  refine kk H' _ (ce_I_put I (by omega) e2 e3 rfl rfl rfl (fun c2 hb => if_neg hb) (fun _ _ => rfl) (fun _ _ => rfl) (ce_cell_fld hk hc ?_))
  rw [hsl] at e1
  exact t_OB.to (V := updV (ce_fv σ g ci a) k (va_rf (some b))) ⟨_, e1, q2, q3, t_set q4 hap hkN _⟩ (fun j _ => ce_fv_upR σ g hrt j)
end CEC
end
section
section CED
variable {ρ : Room} {Y : ce_Y} {kc ks pc : Nat} {L : List (Option Value)} {st : List Value} {σ : ce_S} {g : ce_D} {Q : Option Value → ce_S → ce_D → Prop} {X : String → ce_S → ce_D → Prop}
theorem ce_ix {i : Int32} {n len : Nat} (hi : i = nI n) (hn : n < len) (hb : len ≤ 100000) : vp_in i len ∧ i.toNatClampNeg = n := by
  have h : n < 2 ^ 31 := by omega
  subst hi
  exact ⟨vp_in_nI hn (by omega), nI_clamp h⟩
theorem ce_tyK {G : ce_G} {s : State} (hK : ce_K G s) (k : Nat) (q : ClassId × FieldType) (h : (ce_tys G)[k]? = some q) : ArrOfT s q.1 q.2 ∧ va_RA s q.1 q.2 := hK.1.2 k q h
theorem ce_iald {a n len : Nat} {i : Int32} (d : decode Y.2.1 pc = .ok (.iaload, 1)) (hk : ce_kd σ a = 10) (hi : i = nI n) (hln : ce_ln σ a = len) (hn : n < len) (hb : len ≤ 100000) (kk : ce_WP ρ Y kc ks (pc + 1) L (.int (g a n) :: st) σ g Q X) : ce_WP ρ Y kc ks pc L (.int i :: .ref a :: st) σ g Q X := by
  intro G A p e s m args below meth c H locs ls C I hl
  have kk := kk G A p e s m args below meth c H locs ls C I hl
  obtain ⟨h1, h2⟩ := ce_ix hi hn hb
  refine W.iald (v := .int (g a n)) C.1 C.2.1 ((I.1 a (by omega)).2.2.1 hk) ((ce_tyK C.2.2.2.2.2.2.2.1 0 _ rfl).1 _ _) (fun q => by cases q) (by rw [arrV_size, hln]; exact h1) ?_ rfl rfl d kk
  rw [h2, hln, arrV_read _ _ hn]
theorem ce_cald {a n len : Nat} {i : Int32} (d : decode Y.2.1 pc = .ok (.caload, 1)) (hk : ce_kd σ a = 11) (hi : i = nI n) (hln : ce_ln σ a = len) (hn : n < len) (hb : len ≤ 100000) (kk : ce_WP ρ Y kc ks (pc + 1) L (.int (g a n) :: st) σ g Q X) : ce_WP ρ Y kc ks pc L (.int i :: .ref a :: st) σ g Q X := by
  intro G A p e s m args below meth c H locs ls C I hl
  have kk := kk G A p e s m args below meth c H locs ls C I hl
  obtain ⟨h1, h2⟩ := ce_ix hi hn hb
  refine W.cald (v := .int (g a n)) C.1 C.2.1 ((I.1 a (by omega)).2.2.2.1 hk) ((ce_tyK C.2.2.2.2.2.2.2.1 1 _ rfl).1 _ _) (fun q => by cases q) (by rw [arrV_size, hln]; exact h1) ?_ rfl rfl d kk
  rw [h2, hln, arrV_read _ _ hn]
theorem ce_zald {a n len : Nat} {i : Int32} (d : decode Y.2.1 pc = .ok (.baload, 1)) (hk : ce_kd σ a = 12) (hi : i = nI n) (hln : ce_ln σ a = len) (hn : n < len) (hb : len ≤ 100000) (kk : ce_WP ρ Y kc ks (pc + 1) L (.int (g a n) :: st) σ g Q X) : ce_WP ρ Y kc ks pc L (.int i :: .ref a :: st) σ g Q X := by
  intro G A p e s m args below meth c H locs ls C I hl
  have kk := kk G A p e s m args below meth c H locs ls C I hl
  obtain ⟨h1, h2⟩ := ce_ix hi hn hb
  refine W.zald (v := .int (g a n)) C.1 C.2.1 ((I.1 a (by omega)).2.2.2.2.1 hk) ((ce_tyK C.2.2.2.2.2.2.2.1 2 _ rfl).1 _ _) (fun q => by cases q) (by rw [arrV_size, hln]; exact h1) ?_ rfl rfl d kk
  rw [h2, hln, arrV_read _ _ hn]
theorem ce_aald {a n len b : Nat} {i : Int32} (d : decode Y.2.1 pc = .ok (.aaload, 1)) (hk : ce_kd σ a = 13) (hi : i = nI n) (hln : ce_ln σ a = len) (hn : n < len) (hb : len ≤ 100000) (hv : ce_gr σ a n = some b) (kk : ce_WP ρ Y kc ks (pc + 1) L (.ref b :: st) σ g Q X) : ce_WP ρ Y kc ks pc L (.int i :: .ref a :: st) σ g Q X := by
  intro G A p e s m args below meth c H locs ls C I hl
  have kk := kk G A p e s m args below meth c H locs ls C I hl
  obtain ⟨h1, h2⟩ := ce_ix hi hn hb
  refine W.aald (v := .ref b) (ty := .object "CellarClub$Club") C.1 C.2.1 ((I.1 a (by omega)).2.2.2.2.2.1 hk) ((ce_tyK C.2.2.2.2.2.2.2.1 3 _ rfl).1 _ _) rfl (fun q => by cases q) (by rw [arrV_size, hln]; exact h1) ?_ rfl rfl d kk
  rw [h2, hln, arrV_read _ _ hn, hv]; rfl
theorem ce_lald {a n len : Nat} {i : Int32} (d : decode Y.2.1 pc = .ok (.laload, 1)) (hk : ce_kd σ a = 14) (hi : i = nI n) (hln : ce_ln σ a = len) (hn : n < len) (hb : len ≤ 100000) (kk : ce_WP ρ Y kc ks (pc + 1) L (.long (ce_gl σ a n) :: st) σ g Q X) : ce_WP ρ Y kc ks pc L (.int i :: .ref a :: st) σ g Q X := by
  intro G A p e s m args below meth c H locs ls C I hl
  have kk := kk G A p e s m args below meth c H locs ls C I hl
  obtain ⟨h1, h2⟩ := ce_ix hi hn hb
  refine W.lald (v := .long (ce_gl σ a n)) C.1 C.2.1 ((I.1 a (by omega)).2.2.2.2.2.2 hk) ((ce_tyK C.2.2.2.2.2.2.2.1 4 _ rfl).1 _ _) (fun q => by cases q) (by rw [arrV_size, hln]; exact h1) ?_ rfl rfl d kk
  rw [h2, hln, arrV_read _ _ hn]
theorem ce_alen {a len : Nat} (d : decode Y.2.1 pc = .ok (.arraylength, 1)) (hk : ce_kd σ a = 10 ∨ ce_kd σ a = 12) (hln : ce_ln σ a = len) (kk : ce_WP ρ Y kc ks (pc + 1) L (.int (nI len) :: st) σ g Q X) : ce_WP ρ Y kc ks pc L (.ref a :: st) σ g Q X := by
  intro G A p e s m args below meth c H locs ls C I hl
  have kk := kk G A p e s m args below meth c H locs ls C I hl
  have hc := (I.1 a (by omega)).2
  rcases hk with hk | hk
  · exact W.alen (n := nI len) C.1 C.2.1 (hc.2.1 hk) ((ce_tyK C.2.2.2.2.2.2.2.1 0 _ rfl).1 _ _) (by rw [arrV_size, hln]; rfl) rfl rfl d kk
  · exact W.alen (n := nI len) C.1 C.2.1 (hc.2.2.2.1 hk) ((ce_tyK C.2.2.2.2.2.2.2.1 2 _ rfl).1 _ _) (by rw [arrV_size, hln]; rfl) rfl rfl d kk
theorem ce_updI (g : ce_D) (a n : Nat) (x : Int32) : updV (fun j => .int (g a j)) n (.int x) = fun j => Value.int (ce_up g a n x a j) := by
  funext j
  rw [ce_up_eq]
  unfold updV upd
  by_cases hj : j = n <;> simp [hj]
theorem ce_upL_eq (σ : ce_S) (a k : Nat) (x : Int64) (j : Nat) : ce_gl (ce_upL σ a k x) a j = if j = k then x else ce_gl σ a j := by
  show (if a = a then (fun j => if j = k then x else ce_gl σ a j) else ce_gl σ a) j = _
  rw [if_pos rfl]
theorem ce_iast {a n len : Nat} {i x : Int32} (d : decode Y.2.1 pc = .ok (.iastore, 1)) (hk : ce_kd σ a = 10) (hi : i = nI n) (hln : ce_ln σ a = len) (hn : n < len) (hb : len ≤ 100000) (kk : ce_WP ρ Y kc ks (pc + 1) L st σ (ce_up g a n x) Q X) : ce_WP ρ Y kc ks pc L (.int x :: .int i :: .ref a :: st) σ g Q X := by
  intro G A p e s m args below meth c H locs ls C I hl
  have kk := fun H1 locs1 I1 => kk G A p e s m args below meth c H1 locs1 ls C I1 hl
  obtain ⟨h1, h2⟩ := ce_ix hi hn hb
  refine W.iast C.1 C.2.1 ((I.1 a (by omega)).2.2.1 hk) ((ce_tyK C.2.2.2.2.2.2.2.1 0 _ rfl).1 _ _) (fun q => by cases q) (by rw [arrV_size, hln]; exact h1) rfl rfl d fun H1 e1 z oq => ?_
  refine kk H1 _ (ce_I_put I (by omega) z oq rfl rfl rfl (fun _ _ => rfl) (fun _ _ => rfl) (fun b hb => ce_up_ne g n x hb) ?_)
  rw [h2, arrV_store, ce_updI] at e1
  exact ⟨fun ci r h9 hr => by have := (List.getElem?_eq_some_iff.mp hr).1; have : ci < 9 := this; omega, fun _ => e1, fun h9 => by omega, fun h9 => by omega, fun h9 => by omega, fun h9 => by omega⟩
theorem ce_cast {a n len : Nat} {i x : Int32} (d : decode Y.2.1 pc = .ok (.castore, 1)) (hk : ce_kd σ a = 11) (hi : i = nI n) (hln : ce_ln σ a = len) (hn : n < len) (hb : len ≤ 100000) (hx : narrow .char (.int x) = .int x) (kk : ce_WP ρ Y kc ks (pc + 1) L st σ (ce_up g a n x) Q X) : ce_WP ρ Y kc ks pc L (.int x :: .int i :: .ref a :: st) σ g Q X := by
  intro G A p e s m args below meth c H locs ls C I hl
  have kk := fun H1 locs1 I1 => kk G A p e s m args below meth c H1 locs1 ls C I1 hl
  obtain ⟨h1, h2⟩ := ce_ix hi hn hb
  refine W.cast C.1 C.2.1 ((I.1 a (by omega)).2.2.2.1 hk) ((ce_tyK C.2.2.2.2.2.2.2.1 1 _ rfl).1 _ _) (fun q => by cases q) (by rw [arrV_size, hln]; exact h1) rfl rfl d fun H1 e1 z oq => ?_
  refine kk H1 _ (ce_I_put I (by omega) z oq rfl rfl rfl (fun _ _ => rfl) (fun _ _ => rfl) (fun b hb => ce_up_ne g n x hb) ?_)
  rw [h2, hx, arrV_store, ce_updI] at e1
  exact ⟨fun ci r h9 hr => by have := (List.getElem?_eq_some_iff.mp hr).1; have : ci < 9 := this; omega, fun h9 => by omega, fun _ => e1, fun h9 => by omega, fun h9 => by omega, fun h9 => by omega⟩
theorem ce_zast {a n len : Nat} {i x : Int32} (d : decode Y.2.1 pc = .ok (.bastore, 1)) (hk : ce_kd σ a = 12) (hi : i = nI n) (hln : ce_ln σ a = len) (hn : n < len) (hb : len ≤ 100000) (hx : narrow .boolean (.int x) = .int x) (kk : ce_WP ρ Y kc ks (pc + 1) L st σ (ce_up g a n x) Q X) : ce_WP ρ Y kc ks pc L (.int x :: .int i :: .ref a :: st) σ g Q X := by
  intro G A p e s m args below meth c H locs ls C I hl
  have kk := fun H1 locs1 I1 => kk G A p e s m args below meth c H1 locs1 ls C I1 hl
  obtain ⟨h1, h2⟩ := ce_ix hi hn hb
  refine W.zast C.1 C.2.1 ((I.1 a (by omega)).2.2.2.2.1 hk) ((ce_tyK C.2.2.2.2.2.2.2.1 2 _ rfl).1 _ _) (fun q => by cases q) (by rw [arrV_size, hln]; exact h1) rfl rfl d fun H1 e1 z oq => ?_
  refine kk H1 _ (ce_I_put I (by omega) z oq rfl rfl rfl (fun _ _ => rfl) (fun _ _ => rfl) (fun b hb => ce_up_ne g n x hb) ?_)
  rw [h2, hx, arrV_store, ce_updI] at e1
  exact ⟨fun ci r h9 hr => by have := (List.getElem?_eq_some_iff.mp hr).1; have : ci < 9 := this; omega, fun h9 => by omega, fun h9 => by omega, fun _ => e1, fun h9 => by omega, fun h9 => by omega⟩
theorem ce_last {a n len : Nat} {i : Int32} {x : Int64} (d : decode Y.2.1 pc = .ok (.lastore, 1)) (hk : ce_kd σ a = 14) (hi : i = nI n) (hln : ce_ln σ a = len) (hn : n < len) (hb : len ≤ 100000) (kk : ce_WP ρ Y kc ks (pc + 1) L st (ce_upL σ a n x) g Q X) : ce_WP ρ Y kc ks pc L (.long x :: .int i :: .ref a :: st) σ g Q X := by
  intro G A p e s m args below meth c H locs ls C I hl
  have kk := fun H1 locs1 I1 => kk G A p e s m args below meth c H1 locs1 ls C I1 hl
  obtain ⟨h1, h2⟩ := ce_ix hi hn hb
  refine W.last C.1 C.2.1 ((I.1 a (by omega)).2.2.2.2.2.2 hk) ((ce_tyK C.2.2.2.2.2.2.2.1 4 _ rfl).1 _ _) (fun q => by cases q) (by rw [arrV_size, hln]; exact h1) rfl rfl d fun H1 e1 z oq => ?_
  refine kk H1 _ (ce_I_put I (by omega) z oq rfl rfl rfl (fun _ _ => rfl) (fun b hb => if_neg hb) (fun _ _ => rfl) ?_)
  have e2 : updV (fun j => .long (ce_gl σ a j)) n (.long x) = fun j => Value.long (ce_gl (ce_upL σ a n x) a j) := by
    funext j
    rw [ce_upL_eq]
    unfold updV
    by_cases hj : j = n <;> simp [hj]
  rw [h2, arrV_store, e2] at e1
  exact ⟨fun ci r h9 hr => by have := (List.getElem?_eq_some_iff.mp hr).1; have : ci < 9 := this; have h8 : ce_kd σ a = ci + 1 := h9; omega, fun h9 => by have h8 : ce_kd σ a = 10 := h9; omega, fun h9 => by have h8 : ce_kd σ a = 11 := h9; omega, fun h9 => by have h8 : ce_kd σ a = 12 := h9; omega, fun h9 => by have h8 : ce_kd σ a = 13 := h9; omega, fun _ => e1⟩
theorem ce_aast {a n len b : Nat} {i : Int32} (d : decode Y.2.1 pc = .ok (.aastore, 1)) (hk : ce_kd σ a = 13) (hkb : ce_kd σ b = 1) (hi : i = nI n) (hln : ce_ln σ a = len) (hn : n < len) (hb : len ≤ 100000) (kk : ce_WP ρ Y kc ks (pc + 1) L st (ce_upR σ a n (some b)) g Q X) : ce_WP ρ Y kc ks pc L (.ref b :: .int i :: .ref a :: st) σ g Q X := by
  intro G A p e s m args below meth c H locs ls C I hl
  have kk := fun H1 locs1 I1 => kk G A p e s m args below meth c H1 locs1 ls C I1 hl
  obtain ⟨h1, h2⟩ := ce_ix hi hn hb
  obtain ⟨cellV, g1, g2, g3, -⟩ := (I.1 b (by omega)).2.1 0 _ (by omega) rfl
  have hcls := (C.2.2.2.2.2.2.2.1.1.1 0 _ rfl).2
  obtain ⟨kA, comp, k1, k2, k3, -⟩ := (ce_tyK C.2.2.2.2.2.2.2.1 3 _ rfl).2
  have hcomp : comp = G.2.1.1 0 := Option.some.inj (k3.symm.trans hcls.1)
  subst hcomp
  obtain ⟨kC, hkC, -⟩ := id hcls.2
  refine W.aast C.1 C.2.1 ((I.1 a (by omega)).2.2.2.2.2.1 hk) (fun q h => by cases h) (fun h => by cases h) k1 k2 rfl hkC ⟨fun q => h1 (Or.inl q), by rw [arrV_size, hln, h2]; exact hn⟩ g1 (fun q h => by rw [g3] at h; cases h) (by rw [g2]; exact hkC) (by rw [g2]; exact va_assign hcls) rfl rfl d fun H1 e1 z oq => ?_
  refine kk H1 _ (ce_I_put I (by omega) z oq rfl rfl rfl (fun c2 hc2 => if_neg hc2) (fun _ _ => rfl) (fun _ _ => rfl) ?_)
  have e2 : updV (fun j => va_rf (ce_gr σ a j)) n (.ref b) = fun j => va_rf (ce_gr (ce_upR σ a n (some b)) a j) := by
    funext j
    rw [ce_upR_eq]
    unfold updV
    by_cases hj : j = n
    · rw [if_pos hj, if_pos hj]; rfl
    · rw [if_neg hj, if_neg hj]
  rw [h2, arrV_store, e2] at e1
  exact ⟨fun ci r h9 hr => by have := (List.getElem?_eq_some_iff.mp hr).1; have : ci < 9 := this; have h8 : ce_kd σ a = ci + 1 := h9; omega, fun h9 => by have h8 : ce_kd σ a = 10 := h9; omega, fun h9 => by have h8 : ce_kd σ a = 11 := h9; omega, fun h9 => by have h8 : ce_kd σ a = 12 := h9; omega, fun _ => e1, fun h9 => by have h8 : ce_kd σ a = 14 := h9; omega⟩
end CED
end
section
section CEE
variable {ρ : Room} {Y : ce_Y} {kc ks pc : Nat} {L : List (Option Value)} {st : List Value} {σ : ce_S} {g : ce_D} {Q : Option Value → ce_S → ce_D → Prop} {X : String → ce_S → ce_D → Prop}
/-! ends -/
theorem ce_iret {ty : FieldType} {v : Int32} (d : decode Y.2.1 pc = .ok (.ireturn, 1)) (hr : Y.2.2.2.1 = some ty) (hn : narrow ty (.int v) = .int v) (hc : kc ≤ ρ.cells) (hs : ks ≤ ρ.slots) (q : Q (some (.int v)) σ g) : ce_WP ρ Y kc ks pc L [.int v] σ g Q X := by
  intro G A p e s m args below meth c H locs ls C I hl
  exact W.widen hc hs (vx_ret (W.zret (ty := ty) C.1 C.2.1 (C.2.2.2.1.trans hr) hn (fun t ht hW => ⟨some (.int v), σ, g, rfl, q, by rw [ht]; exact I.1, by rw [ht]; exact I.2.1, I.2.2.2.2, I.2.2.1.F ht⟩) I.2.2.1.2.2 d C.2.2.2.2.1))
theorem ce_lret {v : Int64} (d : decode Y.2.1 pc = .ok (.lreturn, 1)) (hr : Y.2.2.2.1 = some .long) (hc : kc ≤ ρ.cells) (hs : ks ≤ ρ.slots) (q : Q (some (.long v)) σ g) : ce_WP ρ Y kc ks pc L [.long v] σ g Q X := by
  intro G A p e s m args below meth c H locs ls C I hl
  exact W.widen hc hs (vx_ret (W.lret C.1 C.2.1 (C.2.2.2.1.trans hr) (fun t ht hW => ⟨some (.long v), σ, g, rfl, q, by rw [ht]; exact I.1, by rw [ht]; exact I.2.1, I.2.2.2.2, I.2.2.1.F ht⟩) I.2.2.1.2.2 d C.2.2.2.2.1))
theorem ce_vret (d : decode Y.2.1 pc = .ok (.return_, 1)) (hr : Y.2.2.2.1 = none) (hc : kc ≤ ρ.cells) (hs : ks ≤ ρ.slots) (q : Q none σ g) : ce_WP ρ Y kc ks pc L [] σ g Q X := by
  intro G A p e s m args below meth c H locs ls C I hl
  exact W.widen hc hs (vx_ret (W.vret C.1 C.2.1 (C.2.2.2.1.trans hr) (fun t ht hW => ⟨none, σ, g, rfl, q, by rw [ht]; exact I.1, by rw [ht]; exact I.2.1, I.2.2.2.2, I.2.2.1.F ht⟩) I.2.2.1.2.2 d C.2.2.2.2.1))
theorem ce_mono {Q' : Option Value → ce_S → ce_D → Prop} (h : ce_WP ρ Y kc ks pc L st σ g Q X) (hQ : ∀ v σ' g', Q v σ' g' → Q' v σ' g') : ce_WP ρ Y kc ks pc L st σ g Q' X := by
  intro G A p e s m args below meth c H locs ls C I hl T hT X0
  obtain ⟨t, h1, o, h2, h3, h4⟩ := h G A p e s m args below meth c H locs ls C I hl T hT X0
  refine ⟨t, h1, o, h2, h3, ?_⟩
  rcases h4 with ⟨⟨v, σ', g', q1, q2, q3⟩, q4⟩ | h4
  · exact Or.inl ⟨⟨v, σ', g', q1, hQ _ _ _ q2, q3⟩, q4⟩
  · exact Or.inr h4
/-! a method's entry -/
def ce_eL : List Value → List (Option Value)
  | [] => []
  | .long x :: r => some (.long x) :: none :: ce_eL r
  | .double x :: r => some (.double x) :: none :: ce_eL r
  | v :: r => some v :: ce_eL r
theorem ce_eL_sl : ∀ (av : List Value), (ce_eL av).length = (lg_sl av).length ∧ ∀ (i : Nat) (v : Value), (ce_eL av)[i]? = some (some v) → (lg_sl av)[i]? = some (.val v)
  | [] => ⟨rfl, fun i v h => by simp [ce_eL] at h⟩
  | .long x :: r => by
    obtain ⟨h1, h2⟩ := ce_eL_sl r
    refine ⟨by simp [ce_eL, lg_sl, Value.category] at h1 ⊢; exact h1, fun i v h => ?_⟩
    match i, h with
    | 0, h => cases h; rfl
    | 1, h => cases h
    | i + 2, h => exact h2 i v h
  | .double x :: r => by
    obtain ⟨h1, h2⟩ := ce_eL_sl r
    refine ⟨by simp [ce_eL, lg_sl, Value.category] at h1 ⊢; exact h1, fun i v h => ?_⟩
    match i, h with
    | 0, h => cases h; rfl
    | 1, h => cases h
    | i + 2, h => exact h2 i v h
  | .int x :: r => by
    obtain ⟨h1, h2⟩ := ce_eL_sl r
    refine ⟨by simp [ce_eL, lg_sl, Value.category] at h1 ⊢; exact h1, fun i v h => ?_⟩
    match i, h with
    | 0, h => cases h; rfl
    | i + 1, h => exact h2 i v h
  | .float x :: r => by
    obtain ⟨h1, h2⟩ := ce_eL_sl r
    refine ⟨by simp [ce_eL, lg_sl, Value.category] at h1 ⊢; exact h1, fun i v h => ?_⟩
    match i, h with
    | 0, h => cases h; rfl
    | i + 1, h => exact h2 i v h
  | .ref x :: r => by
    obtain ⟨h1, h2⟩ := ce_eL_sl r
    refine ⟨by simp [ce_eL, lg_sl, Value.category] at h1 ⊢; exact h1, fun i v h => ?_⟩
    match i, h with
    | 0, h => cases h; rfl
    | i + 1, h => exact h2 i v h
  | .retAddr x :: r => by
    obtain ⟨h1, h2⟩ := ce_eL_sl r
    refine ⟨by simp [ce_eL, lg_sl, Value.category] at h1 ⊢; exact h1, fun i v h => ?_⟩
    match i, h with
    | 0, h => cases h; rfl
    | i + 1, h => exact h2 i v h
  | .null :: r => by
    obtain ⟨h1, h2⟩ := ce_eL_sl r
    refine ⟨by simp [ce_eL, lg_sl, Value.category] at h1 ⊢; exact h1, fun i v h => ?_⟩
    match i, h with
    | 0, h => cases h; rfl
    | i + 1, h => exact h2 i v h
def ce_pad (av : List Value) (n : Nat) : List (Option Value) := ce_eL av ++ List.replicate (n - (ce_eL av).length) none
theorem ce_L_entry (av : List Value) {n : Nat} (h : (ce_eL av).length ≤ n) : ce_L ((lg_sl av ++ List.replicate (n - (lg_sl av).length) Slot.unset).toArray) n (ce_pad av n) := by
  obtain ⟨h1, h2⟩ := ce_eL_sl av
  obtain ⟨a1, a2, -⟩ := lv_entry av (n := n) (by rw [← h1]; exact h)
  refine ⟨a1, a2, by simp [ce_pad]; omega, fun i v hi => ?_⟩
  unfold ce_pad at hi
  by_cases hl : i < (ce_eL av).length
  · rw [List.getElem?_append_left hl] at hi
    have h3 := h2 i v hi
    rw [List.getElem?_toArray, List.getElem?_append_left (by rw [← h1]; exact hl)]
    exact h3
  · rw [List.getElem?_append_right (by omega)] at hi
    have h3 := List.getElem?_eq_some_iff.mp hi
    obtain ⟨h4, h5⟩ := h3
    rw [List.getElem_replicate] at h5
    cases h5
theorem ce_enter {av : List Value} (hpl : plainName Y.1.cls = true) (hh : Y.2.2.2.2 = []) (hlen : (ce_eL av).length ≤ Y.2.2.1) (hL : ce_pad av Y.2.2.1 = L) (k : ce_WP ρ Y 0 0 0 L [] σ g Q X) : ce_CT ρ Y av σ g Q X := by
  intro G A
  refine vx_ofW (cc := Y.2.1) (maxL := Y.2.2.1) (ret := Y.2.2.2.1) hpl (ws' := ce_gw) (by unfold ce_ws ce_cw; rw [hh]) ?_
  intro p e s m args below meth c s₁ B hml htab hv
  obtain ⟨rfl, h1, h2, h3, h4, h5, h6⟩ := hv
  have hts := atoms_spec (ws := ce_ws Y) B.pre
  have hl := ce_L_entry av hlen
  rw [hL] at hl
  rw [lg_entry_eq]
  refine k G A p e s m _ below meth c s.heap [] _ ⟨B.exec, B.bytes, hml, B.returns, B.notSynchronized, findClass_of_methodNamed B.named, hts, h5, h6, (name_of_methodNamed B.named B.method).1, ?_⟩ ⟨h1, h2, va_S.rf, fun q hq => h3 q (by rw [← h2]; exact hq), h4⟩ hl
  rw [hh]
  show c.exceptionTable.toList = []
  cases he : c.exceptionTable.toList with
  | nil => rfl
  | cons x r => exact (htab x (by rw [he]; exact List.mem_cons_self)).elim
/-! behind a call -/
theorem ce_A_up {G : ce_G} {A : Nat → Prop} {s : State} {H : Heap} {locs : List Loc} (I : ce_I G A s σ g H locs) : ∀ q, ce_A σ q → A q := by
  intro q hq
  rcases hq with hq | hq
  · exact I.2.2.2.2 q hq
  · exact I.2.2.2.1 q (Nat.le_trans I.2.2.1.1 (by rw [I.2.1]; exact hq))
theorem ce_E_at {Y : ce_Y} {G : ce_G} {A : Nat → Prop} {p : Program} {s : State} {m : MethodId} {args : Array Value} {meth : Method} {c : Code} {H : Heap} {locs : List Loc} (C : ce_C Y G A p s m args meth c) (I : ce_I G A s σ g H locs) {U : State} (hU : U.heap = H) (hW : s.WarmedH U.vm) : ce_E G (ce_A σ) σ g U := by
  refine ⟨by rw [hU]; exact I.1, by rw [hU]; exact I.2.1, fun q hq => Or.inr hq, fun q hq => Or.inl hq, ce_K_warm hW C.2.2.2.2.2.2.2.1, ?_⟩
  rw [hU]
  exact ce_Z_narrow (ce_Z_moved hW.alike (ce_Z_kept C.2.2.2.2.2.2.2.2.1 I.2.2.1.2.1)) (ce_A_up I)
theorem ce_join {G : ce_G} {A : Nat → Prop} {p : Program} {e : Env} {s : State} {m : MethodId} {args : Array Value} {below : List Frame} {meth : Method} {c : Code} {H : Heap} {locs : List Loc} {ls : Array Slot} {mc ms : Nat} {st0 rest : List Value} {a : Array Value} {Q' : Option Value → ce_S → ce_D → Prop} {X' : String → ce_S → ce_D → Prop}
    (hr : vx_Run p G.1 e ρ s m args below meth c H locs kc ks mc ms (F0 m pc ls st0) rest (ce_Q G Q' (ce_A σ) a) (ce_X G X' (ce_A σ)) (ce_A σ))
    (C : ce_C Y G A p s m args meth c) (I : ce_I G A s σ g H locs) (hl : ce_L ls Y.2.2.1 L)
    (kk : ∀ v σ' g', Q' v σ' g' → ce_WP ρ Y (kc + mc) (ks + ms) (pc + 3) L (v.toList ++ rest) σ' g' Q X)
    (kx : ∀ E σ' g', X' E σ' g' → ce_WX ρ Y (kc + mc) (ks + ms) pc L rest σ' g' Q X E) :
    W p G.1 e ρ s m args below meth c H locs kc ks (vx_MQ below (ce_Q G Q A) (ce_X G X A) args s ρ.cells ρ.slots A) (F0 m pc ls st0) := by
  intro T hT X0
  have hup := ce_A_up I
  rcases hr T hT X0 with ⟨v, st₀, t, T', Lc, h0, X', hL, e1, e2, ⟨v2, σ', g', hv, hQ, hR, hsz, hkd, hF⟩, st⟩ | ⟨q, st₀, t, T', Lc, E, ce, h0, X', hL, e1, e2, ⟨σ', g', hX, hR, hsz, hkd, hF⟩, hce, hcv, hcl, st⟩
  · cases hv
    obtain ⟨k1, k2, k3⟩ := vx_keep h0 e1 I.2.2.1 (fun q _ h => hup q h) hup hL hF
    obtain ⟨t2, a1, b1⟩ := kk v σ' g' hQ G A p e s m args below meth c T'.heap (locs ++ Lc) ls C ⟨by rw [e1]; exact hR, by rw [e1]; exact hsz, k3, I.2.2.2.1, fun q hq => hup q (hkd q hq)⟩ hl T' rfl X'
    exact ⟨t2, st t2 a1, b1⟩
  · obtain ⟨k1, k2, k3⟩ := vx_keep h0 e1 I.2.2.1 (fun q _ h => hup q h) hup hL hF
    obtain ⟨t2, a1, b1⟩ := kx E σ' g' hX G A p e s m args below meth c T'.heap (locs ++ Lc) ls ce q C ⟨by rw [e1]; exact hR, by rw [e1]; exact hsz, k3, I.2.2.2.1, fun q hq => hup q (hkd q hq)⟩ hl (by rw [e1]; exact hce) hcv hcl T' rfl X'
    exact ⟨t2, st.trans a1, b1⟩
theorem ce_join0 {G : ce_G} {A : Nat → Prop} {p : Program} {e : Env} {s : State} {m : MethodId} {args : Array Value} {below : List Frame} {meth : Method} {c : Code} {H : Heap} {locs : List Loc} {ls : Array Slot} {mc ms : Nat} {st0 rest : List Value} {a : Array Value} {Q' : Option Value → ce_S → ce_D → Prop}
    (hr : va_Run p G.1 e ρ s m args below meth c H locs kc ks mc ms (F0 m pc ls st0) rest (ce_Q G Q' (ce_A σ) a) (ce_A σ))
    (C : ce_C Y G A p s m args meth c) (I : ce_I G A s σ g H locs) (hl : ce_L ls Y.2.2.1 L)
    (kk : ∀ v σ' g', Q' v σ' g' → ce_WP ρ Y (kc + mc) (ks + ms) (pc + 3) L (v.toList ++ rest) σ' g' Q X) :
    W p G.1 e ρ s m args below meth c H locs kc ks (vx_MQ below (ce_Q G Q A) (ce_X G X A) args s ρ.cells ρ.slots A) (F0 m pc ls st0) := by
  refine ce_join (X' := ce_no) (a := a) ?_ C I hl kk (fun _ _ _ h => h.elim)
  intro T hT X0
  exact Or.inl (hr T hT X0)
/-- a method that doesn't throw, as the kit's Met -/
theorem ce_met {av : List Value} (h : ce_CT ρ Y av σ g Q ce_no) (G : ce_G) (A : Nat → Prop) : Met G.1 Y.1 (ce_ws Y) ρ (va_Pc av (ce_E G A σ g)) (ce_Q G Q A) ρ.cells ρ.slots A := by
  refine Jvm.Free.MetFree.mono (h G A) (fun _ _ h => h) (fun _ _ _ _ _ h => h) (fun a st o t _ hq => ?_)
  rcases hq with hq | ⟨q, -, E, ce, Lc, ⟨σ', g', hX, -⟩, -⟩
  · exact hq
  · exact hX.elim
/-! callees -/
def ce_pn (Y : ce_Y) (n : Nat) : Prop := Y.1.cls ≠ "java/lang/invoke/MethodHandle" ∧ Y.1.cls ≠ "java/lang/invoke/VarHandle" ∧ (parseMethodDescriptor Y.1.desc).map (fun d => d.parameters.length) = some n
def ce_MV (Y : ce_Y) (n : Nat) : Prop := ce_pn Y n ∧ Y.2.2.2.2 = [] ∧ ce_cw Y ∈ lw_tbl ∧ Cond.initialized Y.1.cls ∈ lw_tbl ∧ Cond.instanceMethod Y.1 ∈ lw_tbl ∧ Cond.selects Y.1.cls Y.1 Y.1 ∈ lw_tbl
def ce_MS (Y : ce_Y) (n : Nat) : Prop := ce_pn Y n ∧ Y.2.2.2.2 = [] ∧ ce_cw Y ∈ lw_tbl ∧ Cond.initialized Y.1.cls ∈ lw_tbl ∧ Cond.static Y.1 ∈ lw_tbl
def ce_MI (Y : ce_Y) (n : Nat) : Prop := ce_pn Y n ∧ Y.2.2.2.2 = [] ∧ ce_cw Y ∈ lw_tbl ∧ Cond.initialized Y.1.cls ∈ lw_tbl ∧ Cond.instanceMethod Y.1 ∈ lw_tbl ∧ Y.1.name = "<init>" ∧ Y.2.2.2.1 = none
theorem ce_cw_eq {Y : ce_Y} (h : Y.2.2.2.2 = []) : ce_cw Y = Cond.code Y.1 Y.2.1 Y.2.2.1 Y.2.2.2.1 := by unfold ce_cw; rw [h]
theorem ce_ws_eq {Y : ce_Y} (h : Y.2.2.2.2 = []) : ce_ws Y = Cond.code Y.1 Y.2.1 Y.2.2.1 Y.2.2.2.1 :: ce_gw := by unfold ce_ws; rw [ce_cw_eq h]
theorem ce_goodws {Y Y' : ce_Y} (hh : Y'.2.2.2.2 = []) (hc : ce_cw Y' ∈ lw_tbl) : GoodIn (ce_ws Y) (ce_ws Y') := by
  rw [ce_ws_eq hh]
  rw [ce_cw_eq hh] at hc
  intro w hw
  rcases List.mem_cons.mp hw with rfl | hw
  · exact ⟨ce_gw_in hc rfl Y, good_of_word rfl⟩
  · obtain ⟨h1, h2⟩ := List.mem_filter.mp hw
    exact ⟨ce_gw_in h1 h2 Y, good_of_word h2⟩
theorem ce_good1 {Y : ce_Y} {w : Cond} (h : w ∈ lw_tbl) (hg : goodWord w = true) : w ∈ ce_ws Y ∧ ((w.onTables && w.keeps) = true ∨ ∃ ty, w = .arrayClass ty) := ⟨ce_gw_in h hg Y, good_of_word hg⟩
abbrev ce_rm (ρ ρ' : Room) (n : Nat) : Prop := ρ'.frames + 1 ≤ ρ.frames ∧ 8 + (n + 11) + ρ'.locals ≤ ρ.locals
theorem ce_callB {Y Y' : ce_Y} {n idx : Nat} {s : State} {args : Array Value} {ρ' : Room} (hts : ∀ w ∈ ce_ws Y, w.before args s = true) (hp : ce_pn Y' n) (hh : Y'.2.2.2.2 = []) (hc : ce_cw Y' ∈ lw_tbl) (hi : Cond.initialized Y'.1.cls ∈ lw_tbl) (hl : Cond.methodLink Y.1.cls idx Y'.1 ∈ lw_tbl) (hR : ce_rm ρ ρ' Y'.2.2.1) : CallB ρ s args Y.1.cls idx Y'.1 Y'.2.1 Y'.2.2.1 Y'.2.2.2.1 (ce_ws Y') ρ' ρ'.cells ρ'.slots n :=
  callB_of n hts (ce_goodws hh hc) (ce_ws_eq hh) rfl rfl (hts _ (ce_gw_in hi rfl Y)) (hts _ (ce_gw_in hl rfl Y)) hp hR
theorem ce_callV {Y' : ce_Y} {ρ' : Room} {n idx b ci : Nat} {stk As rest : List Value} {Q' : Option Value → ce_S → ce_D → Prop} (d : decode Y.2.1 pc = .ok (.invokevirtual idx, 3)) (hY : ce_MV Y' n) (hl : Cond.methodLink Y.1.cls idx Y'.1 ∈ lw_tbl) (hC : ce_CT ρ' Y' (.ref b :: As) σ g Q' ce_no) (hst : stk = As.reverse ++ .ref b :: rest) (hn : As.length = n)
    (hb : ce_kd σ b = ci + 1) (hcn : (vwCl[ci]?).map (fun r => r.1) = some Y'.1.cls) (hR : ce_rm ρ ρ' Y'.2.2.1) (hrest : (rest.map fun v => v.category).sum ≤ 8) (hcc : kc + ρ'.cells ≤ ρ.cells) (hss : ks + ρ'.slots ≤ ρ.slots)
    (kk : ∀ v σ' g', Q' v σ' g' → ce_WP ρ Y (kc + ρ'.cells) (ks + ρ'.slots) (pc + 3) L (v.toList ++ rest) σ' g' Q X) : ce_WP ρ Y kc ks pc L stk σ g Q X := by
  intro G A p e s m args below meth c H locs ls C I hl'
  obtain ⟨hp, hh, hcw, hi, hin, hsel⟩ := hY
  obtain ⟨hx, hb', hml, hr, hlk, hown, hts, hK, hZ, hnm, htab⟩ := id C
  obtain ⟨r, hrc, hr1⟩ : ∃ r, vwCl[ci]? = some r ∧ r.1 = Y'.1.cls := by
    cases h9 : vwCl[ci]? with
    | none => rw [h9] at hcn; cases hcn
    | some r => rw [h9] at hcn; exact ⟨r, rfl, Option.some.inj hcn⟩
  obtain ⟨cell, q1, q2, q3, -⟩ := (I.1 b (by omega)).2.1 ci r hb hrc
  have hcl : s.vm.findClass Y'.1.cls = some cell.cls := by rw [q2, ← hr1]; exact (hK.1.1 ci r hrc).2.1
  refine ce_join0 (va_runV (As := As) (rest := rest) (n := n) ⟨hx, hb', hml, hown, hts⟩ (ce_met hC G (ce_A σ)) ⟨ce_callB hts hp hh hcw hi hl hR, hts _ (ce_gw_in hin rfl Y), hts _ (ce_gw_in hsel rfl Y)⟩ ⟨ce_E_blind, ⟨cell, q1, by rw [q3]; rfl, hcl⟩, fun U hU hW => ⟨rfl, ce_E_at C I hU hW⟩⟩ rfl hn hl'.1 hst (lv_room hrest) d ⟨hcc, hss⟩) C I hl' kk
theorem ce_callS {Y' : ce_Y} {ρ' : Room} {n idx : Nat} {stk As rest : List Value} {Q' : Option Value → ce_S → ce_D → Prop} (d : decode Y.2.1 pc = .ok (.invokestatic idx, 3)) (hY : ce_MS Y' n) (hl : Cond.methodLink Y.1.cls idx Y'.1 ∈ lw_tbl) (hC : ce_CT ρ' Y' As σ g Q' ce_no) (hst : stk = As.reverse ++ rest) (hn : As.length = n)
    (hR : ce_rm ρ ρ' Y'.2.2.1) (hrest : (rest.map fun v => v.category).sum ≤ 8) (hcc : kc + ρ'.cells ≤ ρ.cells) (hss : ks + ρ'.slots ≤ ρ.slots)
    (kk : ∀ v σ' g', Q' v σ' g' → ce_WP ρ Y (kc + ρ'.cells) (ks + ρ'.slots) (pc + 3) L (v.toList ++ rest) σ' g' Q X) : ce_WP ρ Y kc ks pc L stk σ g Q X := by
  intro G A p e s m args below meth c H locs ls C I hl'
  obtain ⟨hp, hh, hcw, hi, hsta⟩ := hY
  obtain ⟨hx, hb', hml, hr, hlk, hown, hts, hK, hZ, hnm, htab⟩ := id C
  exact ce_join0 (va_runS (As := As) (rest := rest) (n := n) ⟨hx, hb', hml, hown, hts⟩ (ce_met hC G (ce_A σ)) ⟨ce_callB hts hp hh hcw hi hl hR, hts _ (ce_gw_in hsta rfl Y)⟩ ⟨ce_E_blind, fun U hU hW => ⟨rfl, ce_E_at C I hU hW⟩⟩ rfl hn hl'.1 hst (lv_room hrest) d ⟨hcc, hss⟩) C I hl' kk
theorem ce_callN {Y Y' : ce_Y} {n idx : Nat} {s : State} {host : String} {args : Array Value} {G : ce_G} {ρ' : Room} (hts : ∀ w ∈ ce_ws Y, w.before args s = true) (hK : ce_K G s) (hp : ce_pn Y' n) (hh : Y'.2.2.2.2 = []) (hc : ce_cw Y' ∈ lw_tbl) (hi : Cond.initialized Y'.1.cls ∈ lw_tbl) (hl : Cond.methodLinkNest Y.1.cls idx Y'.1 host ∈ lw_tbl) (hR : ce_rm ρ ρ' Y'.2.2.1) : va_CN ρ s args Y.1.cls idx Y'.1 host Y'.2.1 Y'.2.2.1 Y'.2.2.2.1 (ce_ws Y') ρ' ρ'.cells ρ'.slots n :=
  va_cnB n hts (ce_goodws hh hc) (ce_ws_eq hh) rfl rfl (hK.2.1 _ hl rfl) (hts _ (ce_gw_in hi rfl Y)) hp hR
theorem ce_callSN {Y' : ce_Y} {ρ' : Room} {n idx : Nat} {host : String} {stk As rest : List Value} {Q' : Option Value → ce_S → ce_D → Prop} (d : decode Y.2.1 pc = .ok (.invokestatic idx, 3)) (hY : ce_MS Y' n) (hl : Cond.methodLinkNest Y.1.cls idx Y'.1 host ∈ lw_tbl) (hC : ce_CT ρ' Y' As σ g Q' ce_no) (hst : stk = As.reverse ++ rest) (hn : As.length = n)
    (hR : ce_rm ρ ρ' Y'.2.2.1) (hrest : (rest.map fun v => v.category).sum ≤ 8) (hcc : kc + ρ'.cells ≤ ρ.cells) (hss : ks + ρ'.slots ≤ ρ.slots)
    (kk : ∀ v σ' g', Q' v σ' g' → ce_WP ρ Y (kc + ρ'.cells) (ks + ρ'.slots) (pc + 3) L (v.toList ++ rest) σ' g' Q X) : ce_WP ρ Y kc ks pc L stk σ g Q X := by
  intro G A p e s m args below meth c H locs ls C I hl'
  obtain ⟨hp, hh, hcw, hi, hsta⟩ := hY
  obtain ⟨hx, hb', hml, hr, hlk, hown, hts, hK, hZ, hnm, htab⟩ := id C
  exact ce_join0 (va_runSN (host := host) (As := As) (rest := rest) (n := n) ⟨hx, hb', hml, hown, hts⟩ (ce_met hC G (ce_A σ)) ⟨ce_callN hts hK hp hh hcw hi hl hR, hts _ (ce_gw_in hsta rfl Y), trivial⟩ ⟨ce_E_blind, fun U hU hW => ⟨rfl, ce_E_at C I hU hW⟩⟩ rfl hn hl'.1 hst (lv_room hrest) d ⟨hcc, hss⟩) C I hl' kk
theorem ce_callI {Y' : ce_Y} {ρ' : Room} {n idx b : Nat} {stk As rest : List Value} {Q' : Option Value → ce_S → ce_D → Prop} (d : decode Y.2.1 pc = .ok (.invokespecial idx, 3)) (hY : ce_MI Y' n) (hl : Cond.methodLink Y.1.cls idx Y'.1 ∈ lw_tbl) (hC : ce_CT ρ' Y' (.ref b :: As) σ g Q' ce_no) (hst : stk = As.reverse ++ .ref b :: rest) (hn : As.length = n)
    (hR : ce_rm ρ ρ' Y'.2.2.1) (hrest : (rest.map fun v => v.category).sum ≤ 8) (hcc : kc + ρ'.cells ≤ ρ.cells) (hss : ks + ρ'.slots ≤ ρ.slots)
    (kk : ∀ v σ' g', Q' v σ' g' → ce_WP ρ Y (kc + ρ'.cells) (ks + ρ'.slots) (pc + 3) L (v.toList ++ rest) σ' g' Q X) : ce_WP ρ Y kc ks pc L stk σ g Q X := by
  intro G A p e s m args below meth c H locs ls C I hl'
  obtain ⟨hp, hh, hcw, hi, hin, hnm1, hret⟩ := hY
  obtain ⟨hx, hb', hml, hr, hlk, hown, hts, hK, hZ, hnm, htab⟩ := id C
  have hcb := ce_callB hts hp hh hcw hi hl hR
  rw [hret] at hcb
  exact ce_join0 (va_runI (As := As) (rest := rest) (n := n) ⟨hx, hb', hml, hown, hts⟩ (ce_met hC G (ce_A σ)) ⟨hcb, hnm1, hts _ (ce_gw_in hin rfl Y)⟩ ⟨ce_E_blind, fun U hU hW => ⟨rfl, ce_E_at C I hU hW⟩⟩ rfl hn hl'.1 hst (lv_room hrest) d ⟨hcc, hss⟩) C I hl' kk
theorem ce_callIN {Y' : ce_Y} {ρ' : Room} {n idx b : Nat} {host : String} {stk As rest : List Value} {Q' : Option Value → ce_S → ce_D → Prop} (d : decode Y.2.1 pc = .ok (.invokespecial idx, 3)) (hY : ce_MI Y' n) (hl : Cond.methodLinkNest Y.1.cls idx Y'.1 host ∈ lw_tbl) (hC : ce_CT ρ' Y' (.ref b :: As) σ g Q' ce_no) (hst : stk = As.reverse ++ .ref b :: rest) (hn : As.length = n)
    (hR : ce_rm ρ ρ' Y'.2.2.1) (hrest : (rest.map fun v => v.category).sum ≤ 8) (hcc : kc + ρ'.cells ≤ ρ.cells) (hss : ks + ρ'.slots ≤ ρ.slots)
    (kk : ∀ v σ' g', Q' v σ' g' → ce_WP ρ Y (kc + ρ'.cells) (ks + ρ'.slots) (pc + 3) L (v.toList ++ rest) σ' g' Q X) : ce_WP ρ Y kc ks pc L stk σ g Q X := by
  intro G A p e s m args below meth c H locs ls C I hl'
  obtain ⟨hp, hh, hcw, hi, hin, hnm1, hret⟩ := hY
  obtain ⟨hx, hb', hml, hr, hlk, hown, hts, hK, hZ, hnm, htab⟩ := id C
  have hcb := ce_callN hts hK hp hh hcw hi hl hR
  rw [hret] at hcb
  exact ce_join0 (va_runIN (host := host) (As := As) (rest := rest) (n := n) ⟨hx, hb', hml, hown, hts⟩ (ce_met hC G (ce_A σ)) ⟨hcb, hnm1, hts _ (ce_gw_in hin rfl Y)⟩ ⟨ce_E_blind, fun U hU hW => ⟨rfl, ce_E_at C I hU hW⟩⟩ rfl hn hl'.1 hst (lv_room hrest) d ⟨hcc, hss⟩) C I hl' kk
theorem ce_gtest : goodWord (Cond.native yJ9_min_7cf53) = true ∧ goodWord (Cond.arrayClass .int) = true ∧ goodWord (Cond.classLink "a" 1 "b") = true ∧ goodWord (Cond.instantiable "a" 1) = true := ⟨rfl, rfl, rfl, rfl⟩
end CEE
end
section
section CEF
variable {ρ : Room} {Y : ce_Y} {kc ks pc : Nat} {L : List (Option Value)} {st : List Value} {σ : ce_S} {g : ce_D} {Q : Option Value → ce_S → ce_D → Prop} {X : String → ce_S → ce_D → Prop}
/-- a new cell of kind k -/
def ce_nw (σ : ce_S) (k len : Nat) : ce_S := (σ.1 + 1, (fun b => if b = σ.1 then k else ce_kd σ b), (fun b => if b = σ.1 then len else ce_ln σ b), (fun b => if b = σ.1 then (fun _ => none) else ce_gr σ b), (fun b => if b = σ.1 then (fun _ => 0) else ce_gl σ b))
def ce_nd (σ : ce_S) (g : ce_D) : ce_D := fun b => if b = σ.1 then (fun _ => 0) else g b
theorem ce_I_new {G : ce_G} {A : Nat → Prop} {s : State} {H H1 : Heap} {locs : List Loc} {k len : Nat} (I : ce_I G A s σ g H locs) (z : H1.size = H.size + 1) (o1 : ∀ q : Nat, q < H.size → H1[q]? = H[q]?) (h14 : k ≤ 14) (hc : ce_cell G (ce_nw σ k len) (ce_nd σ g) H1 σ.1) : ce_I G A s (ce_nw σ k len) (ce_nd σ g) H1 locs := by
  have hA : A σ.1 := I.2.2.2.1 _ (by have := I.2.2.1.1; have h2 : H.size = σ.1 := I.2.1; omega)
  refine ⟨fun b hb => ?_, by rw [z, I.2.1]; rfl, ⟨Nat.le_trans I.2.2.1.1 (by omega), fun x h1 h2 => (o1 x (Nat.lt_of_lt_of_le h1 I.2.2.1.1)).trans (I.2.2.1.2.1 x h1 h2), I.2.2.1.2.2⟩, I.2.2.2.1, fun q hq => ?_⟩
  · by_cases hbt : b = σ.1
    · subst hbt
      exact ⟨by show (if σ.1 = σ.1 then k else _) ≤ 14; rw [if_pos rfl]; exact h14, hc⟩
    · have e1 : ce_kd (ce_nw σ k len) b = ce_kd σ b := if_neg hbt
      have hb' : ce_kd σ b ≠ 0 := by rw [← e1]; exact hb
      refine ⟨by rw [e1]; exact (I.1 b hb').1, ce_cell_kept (I.1 b hb').2 (o1 b (ce_lt I.1 hb')) e1 (if_neg hbt) (if_neg hbt) (if_neg hbt) (if_neg hbt)⟩
  · by_cases hbt : q = σ.1
    · rw [hbt]; exact hA
    · have e1 : ce_kd (ce_nw σ k len) q = ce_kd σ q := if_neg hbt
      exact I.2.2.2.2 q (by rw [← e1]; exact hq)
theorem ce_dflt0 : ∀ k, k < 14 → defaultValue (tyX0 k) = if ce_rty 0 k then .null else .int 0 := by decide +kernel
theorem ce_dflt1 : ∀ k, k < 2 → defaultValue (tyX1 k) = if ce_rty 1 k then .null else .int 0 := by decide +kernel
theorem ce_dflt2 : ∀ k, k < 2 → defaultValue (tyX2 k) = if ce_rty 2 k then .null else .int 0 := by decide +kernel
theorem ce_dflt3 : ∀ k, k < 4 → defaultValue (tyX3 k) = if ce_rty 3 k then .null else .int 0 := by decide +kernel
theorem ce_dflt4 : ∀ k, k < 1 → defaultValue (tyX4 k) = if ce_rty 4 k then .null else .int 0 := by decide +kernel
theorem ce_dflt5 : ∀ k, k < 1 → defaultValue (tyX5 k) = if ce_rty 5 k then .null else .int 0 := by decide +kernel
theorem ce_dflt6 : ∀ k, k < 5 → defaultValue (tyX6 k) = if ce_rty 6 k then .null else .int 0 := by decide +kernel
theorem ce_dflt7 : ∀ k, k < 7 → defaultValue (tyX7 k) = if ce_rty 7 k then .null else .int 0 := by decide +kernel
theorem ce_dflt8 : ∀ k, k < 15 → defaultValue (tyX8 k) = if ce_rty 8 k then .null else .int 0 := by decide +kernel
theorem ce_dflt : ∀ (ci : Nat) (r : vw_C), vwCl[ci]? = some r → ∃ ty : Nat → FieldType, (∀ k, k < r.2.2 → parseFieldDescriptor (r.2.1 k).2.2.1 = some (ty k)) ∧ ∀ k, k < r.2.2 → defaultValue (ty k) = if ce_rty ci k then .null else .int 0
  | 0, _, h => by cases h; exact ⟨_, tyX0_ok, ce_dflt0⟩
  | 1, _, h => by cases h; exact ⟨_, tyX1_ok, ce_dflt1⟩
  | 2, _, h => by cases h; exact ⟨_, tyX2_ok, ce_dflt2⟩
  | 3, _, h => by cases h; exact ⟨_, tyX3_ok, ce_dflt3⟩
  | 4, _, h => by cases h; exact ⟨_, tyX4_ok, ce_dflt4⟩
  | 5, _, h => by cases h; exact ⟨_, tyX5_ok, ce_dflt5⟩
  | 6, _, h => by cases h; exact ⟨_, tyX6_ok, ce_dflt6⟩
  | 7, _, h => by cases h; exact ⟨_, tyX7_ok, ce_dflt7⟩
  | 8, _, h => by cases h; exact ⟨_, tyX8_ok, ce_dflt8⟩
  | n + 9, _, h => by simp [vwCl] at h
theorem ce_nw_kd (σ : ce_S) (k len : Nat) : ce_kd (ce_nw σ k len) σ.1 = k := if_pos rfl
theorem ce_nw_ln (σ : ce_S) (k len : Nat) : ce_ln (ce_nw σ k len) σ.1 = len := if_pos rfl
theorem ce_nw_gr (σ : ce_S) (k len : Nat) : ce_gr (ce_nw σ k len) σ.1 = fun _ => none := if_pos rfl
theorem ce_nw_gl (σ : ce_S) (k len : Nat) : ce_gl (ce_nw σ k len) σ.1 = fun _ => 0 := if_pos rfl
theorem ce_nd_at (σ : ce_S) (g : ce_D) : ce_nd σ g σ.1 = fun _ => 0 := if_pos rfl
theorem ce_new {ci N idx : Nat} {C : String} {T : u_T} (d : decode Y.2.1 pc = .ok (.new idx, 3)) (hcl : Cond.classLink Y.1.cls idx C ∈ lw_tbl) (hins : Cond.instantiable C N ∈ lw_tbl) (hini : Cond.initialized C ∈ lw_tbl) (hc : vwCl[ci]? = some (C, T, N)) (hcc : kc + 1 ≤ ρ.cells) (hss : ks + N ≤ ρ.slots)
    (kk : ce_WP ρ Y (kc + 1) (ks + N) (pc + 3) L (.ref σ.1 :: st) (ce_nw σ (ci + 1) 0) (ce_nd σ g) Q X) : ce_WP ρ Y kc ks pc L st σ g Q X := by
  intro G A p e s m args below meth c H locs ls C0 I hl
  have kk := fun H1 I1 => kk G A p e s m args below meth c H1 locs ls C0 I1 hl
  obtain ⟨hx, hb, hml, hr, hlk, hown, hts, hK, hZ, hnm, htab⟩ := C0
  have hin := ce_uin (ce_cls ci _ hc).2.2 Y
  have hKn := hK.1.1 ci _ hc
  have hci : ci < 9 := (List.getElem?_eq_some_iff.mp hc).1
  obtain ⟨ty, hty, hdf⟩ := ce_dflt ci _ hc
  refine W.newcK hx hb hown (hts _ (ce_gw_in hcl rfl Y)) (hts _ (ce_gw_in hins rfl Y)) (hts _ (ce_gw_in hini rfl Y)) rfl d hcc hss hKn.2.1 I.2.1 fun H1 kC hkC e1 z1 o1 => ?_
  have hsz : H.size = σ.1 := I.2.1
  refine kk H1 (ce_I_new I (by rw [z1, hsz]) (fun q hq => o1 q (by rw [hsz] at hq; exact hq)) (by omega) (ce_cell_fld (ce_nw_kd σ (ci + 1) 0) hc ?_))
  refine (u_born ty hts hin hKn hkC e1 hty).to (fun k hk => ?_)
  rw [hdf k hk]
  unfold ce_fv
  rw [ce_nw_gr, ce_nd_at]
  rfl
theorem ce_newaG {atype : ArrayType} {n K : Nat} {i : Int32} (d : decode Y.2.1 pc = .ok (.newarray atype, 2)) (harr : Cond.arrayClass (newarray.typeOf atype) ∈ lw_tbl) (hi : i = nI n) (hn : n ≤ 100000) (hby : componentBytes (newarray.typeOf atype) ≤ 8) (hcc : kc + 1 ≤ ρ.cells) (hss : ks + n ≤ ρ.slots)
    (hcell : ∀ (G : ce_G) (s : State) (H1 : Heap) (cA : ClassId), ce_K G s → s.vm.findClass ("[" ++ (newarray.typeOf atype).toString) = some cA → H1[σ.1]? = some (arrV cA n (fun _ => defaultValue (newarray.typeOf atype))) → ce_cell G (ce_nw σ K n) (ce_nd σ g) H1 σ.1) (hK14 : K ≤ 14)
    (kk : ce_WP ρ Y (kc + 1) (ks + n) (pc + 2) L (.ref σ.1 :: st) (ce_nw σ K n) (ce_nd σ g) Q X) : ce_WP ρ Y kc ks pc L (.int i :: st) σ g Q X := by
  intro G A p e s m args below meth c H locs ls C0 I hl
  have kk := fun H1 I1 => kk G A p e s m args below meth c H1 locs ls C0 I1 hl
  obtain ⟨hx, hb, hml, hr, hlk, hown, hts, hK, hZ, hnm, htab⟩ := C0
  subst hi
  have h31 : n < 2 ^ 31 := by omega
  have hsz : H.size = σ.1 := I.2.1
  refine va_newaK hx hb (hts _ (ce_gw_in harr rfl Y)) rfl d rfl (nI_pos h31) (nI_clamp h31) (Nat.le_trans (Nat.mul_le_mul hn hby) (by decide)) hcc hss hsz fun H1 cA e1 z1 o1 hAr hNm => ?_
  exact kk H1 (ce_I_new I (by rw [z1, hsz]) (fun q hq => o1 q (by rw [hsz] at hq; exact hq)) hK14 (hcell G s H1 cA hK hNm e1))
theorem ce_cellN {G : ce_G} {H1 : Heap} {K n : Nat} (h : (K = 10 → H1[σ.1]? = some (arrV (G.2.2 0) n (fun _ => .int 0))) ∧ (K = 11 → H1[σ.1]? = some (arrV (G.2.2 1) n (fun _ => .int 0))) ∧ (K = 12 → H1[σ.1]? = some (arrV (G.2.2 2) n (fun _ => .int 0))) ∧ (K = 13 → H1[σ.1]? = some (arrV (G.2.2 3) n (fun _ => .null))) ∧ (K = 14 → H1[σ.1]? = some (arrV (G.2.2 4) n (fun _ => .long 0)))) (h9 : 10 ≤ K) : ce_cell G (ce_nw σ K n) (ce_nd σ g) H1 σ.1 := by
  unfold ce_cell
  rw [ce_nw_kd, ce_nw_ln, ce_nw_gr, ce_nw_gl, ce_nd_at]
  exact ⟨fun ci r h2 hr => by have := (List.getElem?_eq_some_iff.mp hr).1; have h7 : ci < 9 := this; omega, h⟩
theorem ce_newaI {n : Nat} {i : Int32} (d : decode Y.2.1 pc = .ok (.newarray .int, 2)) (harr : Cond.arrayClass .int ∈ lw_tbl) (hi : i = nI n) (hn : n ≤ 100000) (hcc : kc + 1 ≤ ρ.cells) (hss : ks + n ≤ ρ.slots) (kk : ce_WP ρ Y (kc + 1) (ks + n) (pc + 2) L (.ref σ.1 :: st) (ce_nw σ 10 n) (ce_nd σ g) Q X) : ce_WP ρ Y kc ks pc L (.int i :: st) σ g Q X := by
  refine ce_newaG d harr hi hn (by decide) hcc hss (fun G s H1 cA hK hNm e1 => ?_) (by omega) kk
  have h9 : s.vm.findClass ("[" ++ FieldType.int.toString) = some (G.2.2 0) := (ce_tyK hK 0 _ rfl).2
  cases Option.some.inj (hNm.symm.trans h9)
  exact ce_cellN ⟨fun _ => e1, fun h => by omega, fun h => by omega, fun h => by omega, fun h => by omega⟩ (by omega)
theorem ce_newaC {n : Nat} {i : Int32} (d : decode Y.2.1 pc = .ok (.newarray .char, 2)) (harr : Cond.arrayClass .char ∈ lw_tbl) (hi : i = nI n) (hn : n ≤ 100000) (hcc : kc + 1 ≤ ρ.cells) (hss : ks + n ≤ ρ.slots) (kk : ce_WP ρ Y (kc + 1) (ks + n) (pc + 2) L (.ref σ.1 :: st) (ce_nw σ 11 n) (ce_nd σ g) Q X) : ce_WP ρ Y kc ks pc L (.int i :: st) σ g Q X := by
  refine ce_newaG d harr hi hn (by decide) hcc hss (fun G s H1 cA hK hNm e1 => ?_) (by omega) kk
  have h9 : s.vm.findClass ("[" ++ FieldType.char.toString) = some (G.2.2 1) := (ce_tyK hK 1 _ rfl).2
  cases Option.some.inj (hNm.symm.trans h9)
  exact ce_cellN ⟨fun h => by omega, fun _ => e1, fun h => by omega, fun h => by omega, fun h => by omega⟩ (by omega)
theorem ce_newaZ {n : Nat} {i : Int32} (d : decode Y.2.1 pc = .ok (.newarray .boolean, 2)) (harr : Cond.arrayClass .boolean ∈ lw_tbl) (hi : i = nI n) (hn : n ≤ 100000) (hcc : kc + 1 ≤ ρ.cells) (hss : ks + n ≤ ρ.slots) (kk : ce_WP ρ Y (kc + 1) (ks + n) (pc + 2) L (.ref σ.1 :: st) (ce_nw σ 12 n) (ce_nd σ g) Q X) : ce_WP ρ Y kc ks pc L (.int i :: st) σ g Q X := by
  refine ce_newaG d harr hi hn (by decide) hcc hss (fun G s H1 cA hK hNm e1 => ?_) (by omega) kk
  have h9 : s.vm.findClass ("[" ++ FieldType.boolean.toString) = some (G.2.2 2) := (ce_tyK hK 2 _ rfl).2
  cases Option.some.inj (hNm.symm.trans h9)
  exact ce_cellN ⟨fun h => by omega, fun h => by omega, fun _ => e1, fun h => by omega, fun h => by omega⟩ (by omega)
theorem ce_newaJ {n : Nat} {i : Int32} (d : decode Y.2.1 pc = .ok (.newarray .long, 2)) (harr : Cond.arrayClass .long ∈ lw_tbl) (hi : i = nI n) (hn : n ≤ 100000) (hcc : kc + 1 ≤ ρ.cells) (hss : ks + n ≤ ρ.slots) (kk : ce_WP ρ Y (kc + 1) (ks + n) (pc + 2) L (.ref σ.1 :: st) (ce_nw σ 14 n) (ce_nd σ g) Q X) : ce_WP ρ Y kc ks pc L (.int i :: st) σ g Q X := by
  refine ce_newaG d harr hi hn (by decide) hcc hss (fun G s H1 cA hK hNm e1 => ?_) (by omega) kk
  have h9 : s.vm.findClass ("[" ++ FieldType.long.toString) = some (G.2.2 4) := (ce_tyK hK 4 _ rfl).2
  cases Option.some.inj (hNm.symm.trans h9)
  exact ce_cellN ⟨fun h => by omega, fun h => by omega, fun h => by omega, fun h => by omega, fun _ => e1⟩ (by omega)
theorem ce_anew {n idx : Nat} {i : Int32} (d : decode Y.2.1 pc = .ok (.anewarray idx, 3)) (hcl : Cond.classLink Y.1.cls idx "CellarClub$Club" ∈ lw_tbl) (hi : i = nI n) (hn : n ≤ 100000) (hcc : kc + 1 ≤ ρ.cells) (hss : ks + n ≤ ρ.slots) (kk : ce_WP ρ Y (kc + 1) (ks + n) (pc + 3) L (.ref σ.1 :: st) (ce_nw σ 13 n) (ce_nd σ g) Q X) : ce_WP ρ Y kc ks pc L (.int i :: st) σ g Q X := by
  intro G A p e s m args below meth c H locs ls C0 I hl
  have kk := fun H1 I1 => kk G A p e s m args below meth c H1 locs ls C0 I1 hl
  obtain ⟨hx, hb, hml, hr, hlk, hown, hts, hK, hZ, hnm, htab⟩ := C0
  subst hi
  have h31 : n < 2 ^ 31 := by omega
  have hsz : H.size = σ.1 := I.2.1
  have hcl31 := nI_clamp h31
  refine W.anew hx hb hown (hts _ (ce_gw_in hcl rfl Y)) (va_AO.use hK.2.2.2.2.2) rfl d rfl (nI_pos h31) (by rw [hcl31]; omega) hcc (by rw [hcl31]; exact hss) fun cA kA comp f1 f2 f3 f4 => ?_
  rw [hcl31]
  obtain ⟨kA', comp', -, -, -, h9⟩ := (ce_tyK hK 3 _ rfl).2
  have e9 : cA = G.2.2 3 := Option.some.inj (f1.symm.trans h9)
  subst e9
  rw [hsz]
  refine kk _ (ce_I_new I (by rw [Array.size_push]) (fun q hq => by rw [Array.getElem?_push, if_neg (Nat.ne_of_lt hq)]) (by omega) ?_)
  refine ce_cellN ⟨fun h => by omega, fun h => by omega, fun h => by omega, fun _ => ?_, fun h => by omega⟩ (by omega)
  rw [← hsz, Array.getElem?_push_size, ← arrV_new]
theorem ce_objInit {idx a : Nat} (d : decode Y.2.1 pc = .ok (.invokespecial idx, 3)) (hl : Cond.methodLink Y.1.cls idx Lib.objectInit ∈ lw_tbl) (hin : Cond.instanceMethod Lib.objectInit ∈ lw_tbl) (hco : Cond.code Lib.objectInit ⟨#[0xb1]⟩ 1 none ∈ lw_tbl) (hf : 1 ≤ ρ.frames) (hlo : (st.map fun v => v.category).sum + 12 ≤ ρ.locals) (kk : ce_WP ρ Y kc ks (pc + 3) L st σ g Q X) : ce_WP ρ Y kc ks pc L (.ref a :: st) σ g Q X := by
  intro G A p e s m args below meth c H locs ls C0 I hl'
  have kk := kk G A p e s m args below meth c H locs ls C0 I hl'
  obtain ⟨hx, hb, hml, hr, hlk, hown, hts, hK, hZ, hnm, htab⟩ := C0
  exact W.objInit hx hb hown (hts _ (ce_gw_in hl rfl Y)) (hts _ (ce_gw_in hin rfl Y)) (hts _ (ce_gw_in hco rfl Y)) rfl (by rw [hml]; exact hl'.1) rfl d hf (by show 2 * 0 + _ + 12 ≤ _; omega) kk
end CEF
end
section
section CEG
variable {ρ : Room} {Y : ce_Y} {kc ks pc : Nat} {L : List (Option Value)} {st : List Value} {σ : ce_S} {g : ce_D} {Q : Option Value → ce_S → ce_D → Prop} {X : String → ce_S → ce_D → Prop}
/-- n ints of the array a0 are copied to the array a -/
def ce_cp (g : ce_D) (a0 a n : Nat) : ce_D := fun b => if b = a then (fun k => if k < n then g a0 k else g a k) else g b
theorem ce_cp_eq (g : ce_D) (a0 a n : Nat) : ce_cp g a0 a n a = fun k => if k < n then g a0 k else g a k := if_pos rfl
theorem ce_copy {a0 a n idx : Nat} {i : Int32} (d : decode Y.2.1 pc = .ok (.invokestatic idx, 3)) (hl : Cond.methodLink Y.1.cls idx arraycopyName ∈ lw_tbl) (hnat : Cond.native arraycopyName ∈ lw_tbl) (hstat : Cond.static arraycopyName ∈ lw_tbl) (hini : Cond.initialized "java/lang/System" ∈ lw_tbl)
    (hk0 : ce_kd σ a0 = 10) (hk1 : ce_kd σ a = 10) (hi : i = nI n) (h0 : n ≤ ce_ln σ a0) (h1 : n ≤ ce_ln σ a) (hn : n ≤ 100000) (hf : 1 ≤ ρ.frames) (hlo : (st.map fun v => v.category).sum + (nativeFrameWords "java/lang/System" "arraycopy" 5 + 11) ≤ ρ.locals)
    (kk : ce_WP ρ Y kc ks (pc + 3) L st σ (ce_cp g a0 a n) Q X) : ce_WP ρ Y kc ks pc L (.int i :: .int 0 :: .ref a :: .int 0 :: .ref a0 :: st) σ g Q X := by
  intro G A p e s m args below meth c H locs ls C0 I hl'
  have kk := fun H1 locs1 I1 => kk G A p e s m args below meth c H1 locs1 ls C0 I1 hl'
  obtain ⟨hx, hb, hml, hr, hlk, hown, hts, hK, hZ, hnm, htab⟩ := C0
  subst hi
  have h31 : n < 2 ^ 31 := by omega
  have hc0 := (I.1 a0 (by omega)).2.2.1 hk0
  have hc1 := (I.1 a (by omega)).2.2.1 hk1
  intro T hT X0
  obtain ⟨-, k0, hk0', cm0, hkk0⟩ := (ce_tyK hK 0 _ rfl).1 (ce_ln σ a0) (fun j => .int (g a0 j))
  have hz : (0 : Int32).toNatClampNeg = 0 := rfl
  have hzi : (0 : Int32).toInt = 0 := rfl
  have hni : (nI n).toInt = (n : Int) := nI_toInt h31
  have hnc : (nI n).toNatClampNeg = n := nI_clamp h31
  obtain ⟨vm', X', step⟩ := X0.arraycopy hx hown (hts _ (ce_gw_in hl rfl Y)) (hts _ (ce_gw_in hnat rfl Y)) (hts _ (ce_gw_in hstat rfl Y)) (hts _ (ce_gw_in hini rfl Y)) (src := a0) (dst := a) (cs := arrV (G.2.2 0) (ce_ln σ a0) (fun j => .int (g a0 j))) (cd := arrV (G.2.2 0) (ce_ln σ a) (fun j => .int (g a j))) (srcPos := 0) (destPos := 0) (n := nI n) (by rw [hT]; exact hc0) (by rw [hT]; exact hc1)
    (fun _ h => by cases h) (fun _ h => by cases h) (fun h => by cases h) (fun h => by cases h) hk0' hk0' hkk0 hkk0 (by simp [refKind]) (by decide) (by decide) (nI_pos h31)
    (by rw [hzi, hni, arrV_size]; omega) (by rw [hzi, hni, arrV_size]; omega)
    (fun vm₁ _ i hi => by
      rw [hnc] at hi
      have e : (arrV (G.2.2 0) (ce_ln σ a0) (fun j => Value.int (g a0 j))).slots.getD ((0 : Int32).toNatClampNeg + i) .null = .int (g a0 i) := by
        rw [hz, Nat.zero_add, Array.getD_eq_getD_getElem?, arrV_read _ _ (by omega)]
        rfl
      rw [e]
      exact ⟨rfl, trivial⟩)
    (g := F0 m pc ls (.int (nI n) :: .int 0 :: .ref a :: .int 0 :: .ref a0 :: st)) rfl (by rw [hml]; exact hl'.1) (rest := st) rfl (by rw [hb]; exact d) hf (by show 2 * 0 + _ + _ ≤ _; omega)
  have e1 : copied (arrV (G.2.2 0) (ce_ln σ a0) (fun j => Value.int (g a0 j))) (arrV (G.2.2 0) (ce_ln σ a) (fun j => Value.int (g a j))) 0 0 (nI n) = arrV (G.2.2 0) (ce_ln σ a) (fun j => .int (ce_cp g a0 a n a j)) := by
    have h := va_copied (fun z => Value.int z) (G.2.2 0) (G.2.2 0) (n0 := ce_ln σ a0) (n1 := ce_ln σ a) (sp := 0) (dp := 0) (n := n) (g a0) (g a) (by omega)
    have h2 : copied (arrV (G.2.2 0) (ce_ln σ a0) (fun j => Value.int (g a0 j))) (arrV (G.2.2 0) (ce_ln σ a) (fun j => Value.int (g a j))) 0 0 (nI n) = (arrV (G.2.2 0) (ce_ln σ a) (fun j => Value.int (g a j))).storeRun 0 ((arrV (G.2.2 0) (ce_ln σ a0) (fun j => Value.int (g a0 j))).stretch 0 n) := by
      unfold copied
      rw [hz, hnc]
    rw [h2, h, ce_cp_eq]
    congr 1
    funext j
    unfold va_cpy
    by_cases hj : j < n <;> simp [hj]
  rw [e1] at X' step
  have hla : a < H.size := (Array.getElem?_eq_some_iff.mp hc1).1
  generalize hcell : arrV (G.2.2 0) (ce_ln σ a) (fun j => Value.int (ce_cp g a0 a n a j)) = cell1 at X' step
  have hheap : ((T.setVm vm').setCell a cell1).heap = H.setIfInBounds a cell1 := by rw [← hT]; rfl
  have oq : ∀ q : Nat, q ≠ a → (H.setIfInBounds a cell1)[q]? = H[q]? := fun q hq => by simp [Array.getElem?_setIfInBounds, Ne.symm hq]
  have hat : (H.setIfInBounds a cell1)[a]? = some cell1 := by simp [Array.getElem?_setIfInBounds, hla]
  have hsz : (H.setIfInBounds a cell1).size = H.size := by simp
  have I0 := ce_I_put (σ' := σ) (g' := ce_cp g a0 a n) (k := 0) I (by omega) hsz oq rfl rfl rfl (fun _ _ => rfl) (fun _ _ => rfl) (fun b hb => if_neg hb)
    ⟨fun ci r h9 hr => by have := (List.getElem?_eq_some_iff.mp hr).1; have : ci < 9 := this; omega, fun _ => by rw [hcell]; exact hat, fun h9 => by omega, fun h9 => by omega, fun h9 => by omega, fun h9 => by omega⟩
  have I1 : ∀ locs1 : List Loc, (∀ z ∈ locs1, z.base = a) → ce_I G A s σ (ce_cp g a0 a n) (H.setIfInBounds a cell1) (locs ++ locs1) := fun locs1 h9 => ⟨I0.1, I0.2.1, ⟨I0.2.2.1.1, I0.2.2.1.2.1, fun z hz => by
    rcases List.mem_append.mp hz with h | h
    · exact I.2.2.1.2.2 z h
    · rw [h9 z h]; exact I.2.2.2.2 a (by omega)⟩, I.2.2.2.1, I.2.2.2.2⟩
  obtain ⟨t, a1, b1⟩ := kk _ _ (I1 _ (fun z hz => by obtain ⟨q, -, hq⟩ := List.mem_map.mp hz; rw [← hq])) _ hheap X'
  exact ⟨t, step t a1, b1⟩
/-! exceptions -/
theorem ce_any {Y : ce_Y} {G : ce_G} {s : State} {args : Array Value} (hts : ∀ w ∈ ce_ws Y, w.before args s = true) (hK : ce_K G s) {Ls : List Cond} (h : Ls.all (fun w => decide (w ∈ lw_tbl) && (goodWord w || ce_nest w)) = true) : ∀ w ∈ Ls, w.before args s = true := by
  intro w hw
  have h1 := List.all_eq_true.mp h w hw
  simp only [Bool.and_eq_true, decide_eq_true_eq, Bool.or_eq_true] at h1
  rcases h1.2 with h2 | h2
  · exact hts _ (ce_gw_in h1.1 h2 Y)
  · exact va_Nw.use (ce_tabs_same h2) (hK.2.1 w h1.1 h2)
/-- what a throw leaves: the exception's cells are new -/
def ce_XT (cls : String) (σ : ce_S) (g : ce_D) : String → ce_S → ce_D → Prop := fun E σ' g' => E = cls ∧ g' = g ∧ ∃ n, σ.1 ≤ n ∧ σ' = (n, σ.2)
theorem ce_R_top {G : ce_G} {H H1 : Heap} {n : Nat} (h : ce_R G σ g H) (o1 : ∀ q : Nat, q < H.size → H1[q]? = H[q]?) : ce_R G (n, σ.2) g H1 := fun b hb => ⟨(h b hb).1, ce_cell_kept (h b hb).2 (o1 b (ce_lt h hb)) rfl rfl rfl rfl rfl⟩
theorem ce_throw {ik is ic : Nat} {cls text : String} {names : List String} (hh : Y.2.2.2.2 = []) (hcls : Bundle.fit cls = true) (hnames : ∀ n ∈ names, Bundle.fit n = true) (hk : Cond.classLink Y.1.cls ik cls ∈ lw_tbl) (hini : Cond.initialized cls ∈ lw_tbl) (hstr : (Y.1.cls, is, text) ∈ ce_strs) (hat : (vx_atS Y.1.cls ic cls names).all (fun w => decide (w ∈ lw_tbl) && (goodWord w || ce_nest w)) = true)
    (hgood : (vx_atS Y.1.cls ic cls names).all vx_ot = true)
    (d0 : decode Y.2.1 pc = .ok (.new ik, 3)) (d3 : decode Y.2.1 (pc + 3) = .ok (.dup, 1)) (d4 : decode Y.2.1 (pc + 4) = .ok (.ldc is, 2)) (d6 : decode Y.2.1 (pc + 6) = .ok (.invokespecial ic, 3)) (d9 : decode Y.2.1 (pc + 9) = .ok (.athrow, 1))
    (hf : names.length + 3 < ρ.frames) (hlo : (st.map fun v => v.category).sum + (13 * (names.length + 1) + 43) ≤ ρ.locals) (hcc : kc + 1 ≤ ρ.cells) (hss : ks + 6 ≤ ρ.slots) (hX : ∀ σ' g', ce_XT cls σ g cls σ' g' → X cls σ' g') : ce_WP ρ Y kc ks pc L st σ g Q X := by
  intro G A p e s m args below meth c H locs ls C0 I hl'
  obtain ⟨hx, hb, hml, hr, hlk, hown, hts, hK, hZ, hnm, htab⟩ := C0
  obtain ⟨sa, hsa⟩ := hK.2.2.1 _ hstr
  have hot := List.all_eq_true.mp hgood
  refine vx_throwS (text := text) (names := names) hx hb hK.2.2.2.2.1 hown hcls hnames (hts _ (ce_gw_in hk rfl Y)) (hts _ (ce_gw_in hini rfl Y)) hsa (ce_any hts hK hat) ?_ hZ.1 hZ.2 I.2.2.1 (by rw [hml]; exact hl'.1) d0 d3 d4 d6 d9 ?_ hf hlo hcc hss hlk ?_ I.2.2.1.2.2 hcc hss
  · intro w hw
    rcases List.mem_cons.mp hw with rfl | hw
    · rfl
    · rcases List.mem_cons.mp hw with rfl | hw
      · rfl
      · exact hot w hw
  · intro x hx'
    rw [htab, hh] at hx'
    cases hx'
  · intro t hal hsz ho
    exact ⟨(t.heap.size, σ.2), g, hX _ _ ⟨rfl, rfl, _, by rw [show σ.1 = H.size from I.2.1.symm]; exact hsz, rfl⟩, ce_R_top I.1 ho, rfl, I.2.2.2.2, Nat.le_trans I.2.2.1.1 hsz, fun q h1 h2 => (ho q (Nat.lt_of_lt_of_le h1 I.2.2.1.1)).trans (I.2.2.1.2.1 q h1 h2)⟩
theorem ce_throwW {ik is ic : Nat} {cls text : String} {names : List String} (hh : Y.2.2.2.2 = []) (hcls : Bundle.fit cls = true) (hnames : ∀ n ∈ names, Bundle.fit n = true) (hk : Cond.classLink Y.1.cls ik cls ∈ lw_tbl) (hini : Cond.initialized cls ∈ lw_tbl) (hstr : (Y.1.cls, is, text) ∈ ce_strs) (hat : (vx_atS Y.1.cls ic cls names).all (fun w => decide (w ∈ lw_tbl) && (goodWord w || ce_nest w)) = true)
    (hgood : (vx_atS Y.1.cls ic cls names).all vx_ot = true)
    (d0 : decode Y.2.1 pc = .ok (.new ik, 3)) (d3 : decode Y.2.1 (pc + 3) = .ok (.dup, 1)) (d4 : decode Y.2.1 (pc + 4) = .ok (.ldc_w is, 3)) (d7 : decode Y.2.1 (pc + 7) = .ok (.invokespecial ic, 3)) (d10 : decode Y.2.1 (pc + 10) = .ok (.athrow, 1))
    (hf : names.length + 3 < ρ.frames) (hlo : (st.map fun v => v.category).sum + (13 * (names.length + 1) + 43) ≤ ρ.locals) (hcc : kc + 1 ≤ ρ.cells) (hss : ks + 6 ≤ ρ.slots) (hX : ∀ σ' g', ce_XT cls σ g cls σ' g' → X cls σ' g') : ce_WP ρ Y kc ks pc L st σ g Q X := by
  intro G A p e s m args below meth c H locs ls C0 I hl'
  obtain ⟨hx, hb, hml, hr, hlk, hown, hts, hK, hZ, hnm, htab⟩ := C0
  obtain ⟨sa, hsa⟩ := hK.2.2.1 _ hstr
  have hot := List.all_eq_true.mp hgood
  refine vx_throwSW (text := text) (names := names) hx hb hK.2.2.2.2.1 hown hcls hnames (hts _ (ce_gw_in hk rfl Y)) (hts _ (ce_gw_in hini rfl Y)) hsa (ce_any hts hK hat) ?_ hZ.1 hZ.2 I.2.2.1 (by rw [hml]; exact hl'.1) d0 d3 d4 d7 d10 ?_ hf hlo hcc hss hlk ?_ I.2.2.1.2.2 hcc hss
  · intro w hw
    rcases List.mem_cons.mp hw with rfl | hw
    · rfl
    · rcases List.mem_cons.mp hw with rfl | hw
      · rfl
      · exact hot w hw
  · intro x hx'
    rw [htab, hh] at hx'
    cases hx'
  · intro t hal hsz ho
    exact ⟨(t.heap.size, σ.2), g, hX _ _ ⟨rfl, rfl, _, by rw [show σ.1 = H.size from I.2.1.symm]; exact hsz, rfl⟩, ce_R_top I.1 ho, rfl, I.2.2.2.2, Nat.le_trans I.2.2.1.1 hsz, fun q h1 h2 => (ho q (Nat.lt_of_lt_of_le h1 I.2.2.1.1)).trans (I.2.2.1.2.1 q h1 h2)⟩
/-- not caught -/
theorem ce_xout {E : String} (hh : Y.2.2.2.2 = []) (hc : kc ≤ ρ.cells) (hs : ks ≤ ρ.slots) (hX : X E σ g) : ce_WX ρ Y kc ks pc L st σ g Q X E := by
  intro G A p e s m args below meth c H locs ls ce q C I hl hq hv hcl
  refine vx_out (fun x hx => ?_) C.2.2.2.2.1 hq hv hcl (fun t ht _ => ⟨σ, g, hX, by rw [ht]; exact I.1, by rw [ht]; exact I.2.1, I.2.2.2.2, I.2.2.1.F ht⟩) I.2.2.1.2.2 hc hs
  rw [C.2.2.2.2.2.2.2.2.2.2, hh] at hx
  cases hx
/-- caught by the handler x of the method's table -/
theorem ce_xcatch {E : String} {hnd ct : Nat} (pre : List (Nat × Nat × Nat × Nat)) (b0 e0 : Nat) (suf : List (Nat × Nat × Nat × Nat)) (hsp : Y.2.2.2.2 = pre ++ (b0, e0, hnd, ct) :: suf) (hE : E ∈ ce_xs)
    (hpass : ∀ z ∈ pre, z.2.2.2 ≠ 0 ∧ ∃ nm ∈ ce_xs, E ≠ nm ∧ Cond.classLink Y.1.cls z.2.2.2 nm ∈ lw_tbl) (hcov : b0 ≤ pc ∧ pc < e0) (h0 : ct ≠ 0) (hlink : Cond.classLink Y.1.cls ct E ∈ lw_tbl) (hcast : Cond.castable E E ∈ lw_tbl)
    (kk : ∀ q, ce_WP ρ Y kc ks hnd L [.ref q] σ g Q X) : ce_WX ρ Y kc ks pc L st σ g Q X E := by
  intro G A p e s m args below meth c H locs ls ce q C I hl hq hv hcl
  have kk := kk q G A p e s m args below meth c H locs ls C I hl
  obtain ⟨hx, hb, hml, hr, hlk, hown, hts, hK, hZ, hnm, htab⟩ := C
  refine vx_catch (name := E) hown (tableOf pre) ⟨b0, e0, hnd, ct⟩ (tableOf suf) (by rw [htab, hsp]; simp [tableOf]) ?_ (by simp [covers, hcov.1, hcov.2]) h0 (hts _ (ce_gw_in hlink rfl Y)) (va_Nw.use rfl (hK.2.1 _ hcast rfl)) hq hv hcl kk
  intro z hz
  obtain ⟨w, hw, rfl⟩ := List.mem_map.mp hz
  obtain ⟨h1, nm, hnm1, hne, hlk1⟩ := hpass w hw
  exact Or.inr ⟨h1, nm, hts _ (ce_gw_in hlk1 rfl Y), hK.2.2.2.1 E hE nm hnm1 hne⟩
/-! calls of methods that may throw -/
theorem ce_callSX {Y' : ce_Y} {ρ' : Room} {n idx : Nat} {stk As rest : List Value} {Q' : Option Value → ce_S → ce_D → Prop} {X' : String → ce_S → ce_D → Prop} (d : decode Y.2.1 pc = .ok (.invokestatic idx, 3)) (hY : ce_MS Y' n) (hl : Cond.methodLink Y.1.cls idx Y'.1 ∈ lw_tbl) (hC : ce_CT ρ' Y' As σ g Q' X') (hst : stk = As.reverse ++ rest) (hn : As.length = n)
    (hR : ce_rm ρ ρ' Y'.2.2.1) (hrest : (rest.map fun v => v.category).sum ≤ 8) (hcc : kc + ρ'.cells ≤ ρ.cells) (hss : ks + ρ'.slots ≤ ρ.slots)
    (kk : ∀ v σ' g', Q' v σ' g' → ce_WP ρ Y (kc + ρ'.cells) (ks + ρ'.slots) (pc + 3) L (v.toList ++ rest) σ' g' Q X)
    (kx : ∀ E σ' g', X' E σ' g' → ce_WX ρ Y (kc + ρ'.cells) (ks + ρ'.slots) pc L rest σ' g' Q X E) : ce_WP ρ Y kc ks pc L stk σ g Q X := by
  intro G A p e s m args below meth c H locs ls C I hl'
  obtain ⟨hp, hh, hcw, hi, hsta⟩ := hY
  obtain ⟨hx, hb', hml, hr, hlk, hown, hts, hK, hZ, hnm, htab⟩ := id C
  exact ce_join (vx_runS (As := As) (rest := rest) (n := n) ⟨hx, hb', hml, hown, hts⟩ (hC G (ce_A σ)) ⟨ce_callB hts hp hh hcw hi hl hR, hts _ (ce_gw_in hsta rfl Y)⟩ ⟨ce_E_blind, fun U hU hW => ⟨rfl, ce_E_at C I hU hW⟩⟩ rfl hn hl'.1 hst (lv_room hrest) d ⟨hcc, hss⟩) C I hl' kk kx
theorem ce_callVX {Y' : ce_Y} {ρ' : Room} {n idx b ci : Nat} {stk As rest : List Value} {Q' : Option Value → ce_S → ce_D → Prop} {X' : String → ce_S → ce_D → Prop} (d : decode Y.2.1 pc = .ok (.invokevirtual idx, 3)) (hY : ce_MV Y' n) (hl : Cond.methodLink Y.1.cls idx Y'.1 ∈ lw_tbl) (hC : ce_CT ρ' Y' (.ref b :: As) σ g Q' X') (hst : stk = As.reverse ++ .ref b :: rest) (hn : As.length = n)
    (hb : ce_kd σ b = ci + 1) (hcn : (vwCl[ci]?).map (fun r => r.1) = some Y'.1.cls) (hR : ce_rm ρ ρ' Y'.2.2.1) (hrest : (rest.map fun v => v.category).sum ≤ 8) (hcc : kc + ρ'.cells ≤ ρ.cells) (hss : ks + ρ'.slots ≤ ρ.slots)
    (kk : ∀ v σ' g', Q' v σ' g' → ce_WP ρ Y (kc + ρ'.cells) (ks + ρ'.slots) (pc + 3) L (v.toList ++ rest) σ' g' Q X)
    (kx : ∀ E σ' g', X' E σ' g' → ce_WX ρ Y (kc + ρ'.cells) (ks + ρ'.slots) pc L rest σ' g' Q X E) : ce_WP ρ Y kc ks pc L stk σ g Q X := by
  intro G A p e s m args below meth c H locs ls C I hl'
  obtain ⟨hp, hh, hcw, hi, hin, hsel⟩ := hY
  obtain ⟨hx, hb', hml, hr, hlk, hown, hts, hK, hZ, hnm, htab⟩ := id C
  obtain ⟨r, hrc, hr1⟩ : ∃ r, vwCl[ci]? = some r ∧ r.1 = Y'.1.cls := by
    cases h9 : vwCl[ci]? with
    | none => rw [h9] at hcn; cases hcn
    | some r => rw [h9] at hcn; exact ⟨r, rfl, Option.some.inj hcn⟩
  obtain ⟨cell, q1, q2, q3, -⟩ := (I.1 b (by omega)).2.1 ci r hb hrc
  have hcl : s.vm.findClass Y'.1.cls = some cell.cls := by rw [q2, ← hr1]; exact (hK.1.1 ci r hrc).2.1
  exact ce_join (vx_runV (As := As) (rest := rest) (n := n) ⟨hx, hb', hml, hown, hts⟩ (hC G (ce_A σ)) ⟨ce_callB hts hp hh hcw hi hl hR, hts _ (ce_gw_in hin rfl Y), hts _ (ce_gw_in hsel rfl Y)⟩ ⟨ce_E_blind, ⟨cell, q1, by rw [q3]; rfl, hcl⟩, fun U hU hW => ⟨rfl, ce_E_at C I hU hW⟩⟩ rfl hn hl'.1 hst (lv_room hrest) d ⟨hcc, hss⟩) C I hl' kk kx
/-- a method with handlers: its entry -/
theorem ce_enterH {av : List Value} {z : Nat × Nat × Nat × Nat} {zs : List (Nat × Nat × Nat × Nat)} (hpl : plainName Y.1.cls = true) (hh : Y.2.2.2.2 = z :: zs) (hlen : (ce_eL av).length ≤ Y.2.2.1) (hL : ce_pad av Y.2.2.1 = L) (k : ce_WP ρ Y 0 0 0 L [] σ g Q X) : ce_CT ρ Y av σ g Q X := by
  intro G A
  have hw : ce_ws Y = Cond.codeWith Y.1 Y.2.1 Y.2.2.1 Y.2.2.2.1 (z :: zs) :: ce_gw := by unfold ce_ws ce_cw; rw [hh]
  refine vx_ofWH (cc := Y.2.1) (maxL := Y.2.2.1) (ret := Y.2.2.2.1) (hh := z :: zs) hpl (ws' := ce_gw) hw ?_
  intro p e s m args below meth c s₁ B hml hv
  obtain ⟨rfl, h1, h2, h3, h4, h5, h6⟩ := hv
  have hts := atoms_spec (ws := ce_ws Y) B.pre
  have hl := ce_L_entry av hlen
  rw [hL] at hl
  rw [lg_entry_eq]
  refine k G A p e s m _ below meth c s.heap [] _ ⟨B.exec, B.bytes, hml, B.returns, B.notSynchronized, findClass_of_methodNamed B.named, hts, h5, h6, (name_of_methodNamed B.named B.method).1, ?_⟩ ⟨h1, h2, va_S.rf, fun q hq => h3 q (by rw [← h2]; exact hq), h4⟩ hl
  rw [hh]
  exact vx_table (x := Y.1) B (hts _ (by rw [hw]; exact List.mem_cons_self))
def ce_MH (Y : ce_Y) (n : Nat) : Prop := ce_pn Y n ∧ (∃ z zs, Y.2.2.2.2 = z :: zs) ∧ ce_cw Y ∈ lw_tbl ∧ Cond.initialized Y.1.cls ∈ lw_tbl ∧ Cond.static Y.1 ∈ lw_tbl
theorem ce_callSW {Y' : ce_Y} {ρ' : Room} {n idx : Nat} {stk As rest : List Value} {Q' : Option Value → ce_S → ce_D → Prop} (d : decode Y.2.1 pc = .ok (.invokestatic idx, 3)) (hY : ce_MH Y' n) (hl : Cond.methodLink Y.1.cls idx Y'.1 ∈ lw_tbl) (hC : ce_CT ρ' Y' As σ g Q' ce_no) (hst : stk = As.reverse ++ rest) (hn : As.length = n)
    (hR : ce_rm ρ ρ' Y'.2.2.1) (hrest : (rest.map fun v => v.category).sum ≤ 8) (hcc : kc + ρ'.cells ≤ ρ.cells) (hss : ks + ρ'.slots ≤ ρ.slots)
    (kk : ∀ v σ' g', Q' v σ' g' → ce_WP ρ Y (kc + ρ'.cells) (ks + ρ'.slots) (pc + 3) L (v.toList ++ rest) σ' g' Q X) : ce_WP ρ Y kc ks pc L stk σ g Q X := by
  intro G A p e s m args below meth c H locs ls C I hl'
  obtain ⟨hp, ⟨z, zs, hh⟩, hcw, hi, hsta⟩ := hY
  obtain ⟨hx, hb', hml, hr, hlk, hown, hts, hK, hZ, hnm, htab⟩ := id C
  have hcw1 : ce_cw Y' = Cond.codeWith Y'.1 Y'.2.1 Y'.2.2.1 Y'.2.2.2.1 (z :: zs) := by unfold ce_cw; rw [hh]
  have hws1 : ce_ws Y' = Cond.codeWith Y'.1 Y'.2.1 Y'.2.2.1 Y'.2.2.2.1 (z :: zs) :: ce_gw := by unfold ce_ws; rw [hcw1]
  rw [hcw1] at hcw
  have hG : GoodIn (ce_ws Y) (va_wsS Y.1.cls idx Y'.1 (ce_ws Y')) := by
    intro w hw
    unfold va_wsS at hw
    rcases List.mem_append.mp hw with hw | hw
    · rcases List.mem_cons.mp hw with rfl | hw
      · exact ce_good1 hl rfl
      · rcases List.mem_cons.mp hw with rfl | hw
        · exact ce_good1 hsta rfl
        · rcases List.mem_cons.mp hw with rfl | hw
          · exact ce_good1 hi rfl
          · cases hw
    · rw [hws1] at hw
      rcases List.mem_cons.mp hw with rfl | hw
      · exact ce_good1 hcw rfl
      · obtain ⟨h1, h2⟩ := List.mem_filter.mp hw
        exact ce_good1 h1 h2
  exact ce_join0 (vx_runSW (hh := z :: zs) (As := As) (rest := rest) (n := n) ⟨hx, hb', hml, hown, hts⟩ (ce_met hC G (ce_A σ)) (vx_cwSW n hts hG hws1 rfl rfl hp hR) ⟨ce_E_blind, fun U hU hW => ⟨rfl, ce_E_at C I hU hW⟩⟩ rfl hn hl'.1 hst (lv_room hrest) d ⟨hcc, hss⟩) C I hl' kk
end CEG
end
section
/-- a word of the tables by its place -/
theorem ce_t {w : Cond} {i : Nat} (h : tables_1[i]? = some w) : w ∈ lw_tbl := List.mem_append_right _ (List.mem_of_getElem? h)
theorem ce_s {w : Cond} {i : Nat} (h : (k2_sels lw_privs)[i]? = some w) : w ∈ lw_tbl := List.mem_append_left _ (List.mem_of_getElem? h)
abbrev mX0_init : ce_Y := (yX0_init, cX0_init, 1, none, [])
theorem hX0_init : ce_MI mX0_init 0 := ⟨⟨by decide +kernel, by decide +kernel, by decide +kernel⟩, rfl, (ce_t (i := 31) (by decide +kernel)), (ce_t (i := 2) (by decide +kernel)), (ce_t (i := 30) (by decide +kernel)), rfl, rfl⟩
abbrev mX0_knowsMember : ce_Y := (yX0_knowsMember, cX0_knowsMember, 2, (some .boolean), [])
theorem hX0_knowsMember : ce_MV mX0_knowsMember 1 := ⟨⟨by decide +kernel, by decide +kernel, by decide +kernel⟩, rfl, (ce_t (i := 517) (by decide +kernel)), (ce_t (i := 2) (by decide +kernel)), (ce_t (i := 515) (by decide +kernel)), (ce_t (i := 516) (by decide +kernel))⟩
abbrev mX0_knowsWine : ce_Y := (yX0_knowsWine, cX0_knowsWine, 2, (some .boolean), [])
theorem hX0_knowsWine : ce_MV mX0_knowsWine 1 := ⟨⟨by decide +kernel, by decide +kernel, by decide +kernel⟩, rfl, (ce_t (i := 536) (by decide +kernel)), (ce_t (i := 2) (by decide +kernel)), (ce_t (i := 534) (by decide +kernel)), (ce_t (i := 535) (by decide +kernel))⟩
abbrev mX0_knowsBoth : ce_Y := (yX0_knowsBoth, cX0_knowsBoth, 3, (some .boolean), [])
theorem hX0_knowsBoth : ce_MV mX0_knowsBoth 2 := ⟨⟨by decide +kernel, by decide +kernel, by decide +kernel⟩, rfl, (ce_t (i := 567) (by decide +kernel)), (ce_t (i := 2) (by decide +kernel)), (ce_t (i := 565) (by decide +kernel)), (ce_t (i := 566) (by decide +kernel))⟩
abbrev mX0_factOfAll : ce_Y := (yX0_factOfAll, cX0_factOfAll, 2, (some .int), [])
theorem hX0_factOfAll : ce_MV mX0_factOfAll 1 := ⟨⟨by decide +kernel, by decide +kernel, by decide +kernel⟩, rfl, (ce_t (i := 485) (by decide +kernel)), (ce_t (i := 2) (by decide +kernel)), (ce_t (i := 483) (by decide +kernel)), (ce_t (i := 484) (by decide +kernel))⟩
abbrev mX0_factOfMember : ce_Y := (yX0_factOfMember, cX0_factOfMember, 3, (some .int), [])
theorem hX0_factOfMember : ce_MV mX0_factOfMember 2 := ⟨⟨by decide +kernel, by decide +kernel, by decide +kernel⟩, rfl, (ce_t (i := 521) (by decide +kernel)), (ce_t (i := 2) (by decide +kernel)), (ce_t (i := 519) (by decide +kernel)), (ce_t (i := 520) (by decide +kernel))⟩
abbrev mX0_factOfWine : ce_Y := (yX0_factOfWine, cX0_factOfWine, 3, (some .int), [])
theorem hX0_factOfWine : ce_MV mX0_factOfWine 2 := ⟨⟨by decide +kernel, by decide +kernel, by decide +kernel⟩, rfl, (ce_t (i := 540) (by decide +kernel)), (ce_t (i := 2) (by decide +kernel)), (ce_t (i := 538) (by decide +kernel)), (ce_t (i := 539) (by decide +kernel))⟩
abbrev mX0_factOfBoth : ce_Y := (yX0_factOfBoth, cX0_factOfBoth, 4, (some .int), [])
theorem hX0_factOfBoth : ce_MV mX0_factOfBoth 3 := ⟨⟨by decide +kernel, by decide +kernel, by decide +kernel⟩, rfl, (ce_t (i := 573) (by decide +kernel)), (ce_t (i := 2) (by decide +kernel)), (ce_t (i := 571) (by decide +kernel)), (ce_t (i := 572) (by decide +kernel))⟩
abbrev mX0_memberFault : ce_Y := (yX0_memberFault, cX0_memberFault, 2, (some .int), [])
theorem hX0_memberFault : ce_MV mX0_memberFault 1 := ⟨⟨by decide +kernel, by decide +kernel, by decide +kernel⟩, rfl, (ce_t (i := 584) (by decide +kernel)), (ce_t (i := 2) (by decide +kernel)), (ce_t (i := 582) (by decide +kernel)), (ce_t (i := 583) (by decide +kernel))⟩
abbrev mX0_enrol : ce_Y := (yX0_enrol, cX0_enrol, 3, (some .int), [])
theorem hX0_enrol : ce_MV mX0_enrol 1 := ⟨⟨by decide +kernel, by decide +kernel, by decide +kernel⟩, rfl, (ce_t (i := 273) (by decide +kernel)), (ce_t (i := 2) (by decide +kernel)), (ce_t (i := 271) (by decide +kernel)), (ce_t (i := 272) (by decide +kernel))⟩
abbrev mX0_wineFault : ce_Y := (yX0_wineFault, cX0_wineFault, 3, (some .int), [])
theorem hX0_wineFault : ce_MV mX0_wineFault 2 := ⟨⟨by decide +kernel, by decide +kernel, by decide +kernel⟩, rfl, (ce_t (i := 605) (by decide +kernel)), (ce_t (i := 2) (by decide +kernel)), (ce_t (i := 603) (by decide +kernel)), (ce_t (i := 604) (by decide +kernel))⟩
abbrev mX0_offer : ce_Y := (yX0_offer, cX0_offer, 4, (some .int), [])
theorem hX0_offer : ce_MV mX0_offer 2 := ⟨⟨by decide +kernel, by decide +kernel, by decide +kernel⟩, rfl, (ce_t (i := 281) (by decide +kernel)), (ce_t (i := 2) (by decide +kernel)), (ce_t (i := 279) (by decide +kernel)), (ce_t (i := 280) (by decide +kernel))⟩
abbrev mX0_orderFault : ce_Y := (yX0_orderFault, cX0_orderFault, 4, (some .int), [])
theorem hX0_orderFault : ce_MV mX0_orderFault 3 := ⟨⟨by decide +kernel, by decide +kernel, by decide +kernel⟩, rfl, (ce_t (i := 629) (by decide +kernel)), (ce_t (i := 2) (by decide +kernel)), (ce_t (i := 627) (by decide +kernel)), (ce_t (i := 628) (by decide +kernel))⟩
abbrev mX0_changeOrder : ce_Y := (yX0_changeOrder, cX0_changeOrder, 5, (some .int), [])
theorem hX0_changeOrder : ce_MV mX0_changeOrder 3 := ⟨⟨by decide +kernel, by decide +kernel, by decide +kernel⟩, rfl, (ce_t (i := 298) (by decide +kernel)), (ce_t (i := 2) (by decide +kernel)), (ce_t (i := 296) (by decide +kernel)), (ce_t (i := 297) (by decide +kernel))⟩
abbrev mX0_allocationFault : ce_Y := (yX0_allocationFault, cX0_allocationFault, 2, (some .int), [])
theorem hX0_allocationFault : ce_MV mX0_allocationFault 1 := ⟨⟨by decide +kernel, by decide +kernel, by decide +kernel⟩, rfl, (ce_t (i := 642) (by decide +kernel)), (ce_t (i := 2) (by decide +kernel)), (ce_t (i := 640) (by decide +kernel)), (ce_t (i := 641) (by decide +kernel))⟩
abbrev mX0_shareOut : ce_Y := (yX0_shareOut, cX0_shareOut, 4, (some .int), [])
theorem hX0_shareOut : ce_MV mX0_shareOut 1 := ⟨⟨by decide +kernel, by decide +kernel, by decide +kernel⟩, rfl, (ce_t (i := 646) (by decide +kernel)), (ce_t (i := 2) (by decide +kernel)), (ce_t (i := 644) (by decide +kernel)), (ce_t (i := 645) (by decide +kernel))⟩
abbrev mX0_nextToGet : ce_Y := (yX0_nextToGet, cX0_nextToGet, 5, (some .int), [])
theorem hX0_nextToGet : ce_MV mX0_nextToGet 1 := ⟨⟨by decide +kernel, by decide +kernel, by decide +kernel⟩, rfl, (ce_t (i := 650) (by decide +kernel)), (ce_t (i := 2) (by decide +kernel)), (ce_t (i := 649) (by decide +kernel)), (ce_s (i := 11) (by decide +kernel))⟩
abbrev mX0_comesBefore : ce_Y := (yX0_comesBefore, cX0_comesBefore, 4, (some .boolean), [])
theorem hX0_comesBefore : ce_MV mX0_comesBefore 3 := ⟨⟨by decide +kernel, by decide +kernel, by decide +kernel⟩, rfl, (ce_t (i := 655) (by decide +kernel)), (ce_t (i := 2) (by decide +kernel)), (ce_t (i := 654) (by decide +kernel)), (ce_s (i := 12) (by decide +kernel))⟩
abbrev mX0_paidAhead : ce_Y := (yX0_paidAhead, cX0_paidAhead, 3, (some .int), [])
theorem hX0_paidAhead : ce_MV mX0_paidAhead 2 := ⟨⟨by decide +kernel, by decide +kernel, by decide +kernel⟩, rfl, (ce_t (i := 663) (by decide +kernel)), (ce_t (i := 2) (by decide +kernel)), (ce_t (i := 662) (by decide +kernel)), (ce_s (i := 13) (by decide +kernel))⟩
abbrev mX0_deliveryFault : ce_Y := (yX0_deliveryFault, cX0_deliveryFault, 2, (some .int), [])
theorem hX0_deliveryFault : ce_MV mX0_deliveryFault 1 := ⟨⟨by decide +kernel, by decide +kernel, by decide +kernel⟩, rfl, (ce_t (i := 675) (by decide +kernel)), (ce_t (i := 2) (by decide +kernel)), (ce_t (i := 673) (by decide +kernel)), (ce_t (i := 674) (by decide +kernel))⟩
abbrev mX0_bringIn : ce_Y := (yX0_bringIn, cX0_bringIn, 5, (some .int), [])
theorem hX0_bringIn : ce_MV mX0_bringIn 1 := ⟨⟨by decide +kernel, by decide +kernel, by decide +kernel⟩, rfl, (ce_t (i := 687) (by decide +kernel)), (ce_t (i := 2) (by decide +kernel)), (ce_t (i := 685) (by decide +kernel)), (ce_t (i := 686) (by decide +kernel))⟩
abbrev mX0_drinkFault : ce_Y := (yX0_drinkFault, cX0_drinkFault, 4, (some .int), [])
theorem hX0_drinkFault : ce_MV mX0_drinkFault 3 := ⟨⟨by decide +kernel, by decide +kernel, by decide +kernel⟩, rfl, (ce_t (i := 718) (by decide +kernel)), (ce_t (i := 2) (by decide +kernel)), (ce_t (i := 716) (by decide +kernel)), (ce_t (i := 717) (by decide +kernel))⟩
abbrev mX0_drinkUp : ce_Y := (yX0_drinkUp, cX0_drinkUp, 4, (some .int), [])
theorem hX0_drinkUp : ce_MV mX0_drinkUp 3 := ⟨⟨by decide +kernel, by decide +kernel, by decide +kernel⟩, rfl, (ce_t (i := 722) (by decide +kernel)), (ce_t (i := 2) (by decide +kernel)), (ce_t (i := 720) (by decide +kernel)), (ce_t (i := 721) (by decide +kernel))⟩
abbrev mX0_giftFault : ce_Y := (yX0_giftFault, cX0_giftFault, 5, (some .int), [])
theorem hX0_giftFault : ce_MV mX0_giftFault 4 := ⟨⟨by decide +kernel, by decide +kernel, by decide +kernel⟩, rfl, (ce_t (i := 745) (by decide +kernel)), (ce_t (i := 2) (by decide +kernel)), (ce_t (i := 743) (by decide +kernel)), (ce_t (i := 744) (by decide +kernel))⟩
abbrev mX0_handOver : ce_Y := (yX0_handOver, cX0_handOver, 5, (some .int), [])
theorem hX0_handOver : ce_MV mX0_handOver 4 := ⟨⟨by decide +kernel, by decide +kernel, by decide +kernel⟩, rfl, (ce_t (i := 749) (by decide +kernel)), (ce_t (i := 2) (by decide +kernel)), (ce_t (i := 747) (by decide +kernel)), (ce_t (i := 748) (by decide +kernel))⟩
abbrev mX0_corkFault : ce_Y := (yX0_corkFault, cX0_corkFault, 3, (some .int), [])
theorem hX0_corkFault : ce_MV mX0_corkFault 2 := ⟨⟨by decide +kernel, by decide +kernel, by decide +kernel⟩, rfl, (ce_t (i := 760) (by decide +kernel)), (ce_t (i := 2) (by decide +kernel)), (ce_t (i := 758) (by decide +kernel)), (ce_t (i := 759) (by decide +kernel))⟩
abbrev mX0_replaceCorked : ce_Y := (yX0_replaceCorked, cX0_replaceCorked, 3, (some .int), [])
theorem hX0_replaceCorked : ce_MV mX0_replaceCorked 2 := ⟨⟨by decide +kernel, by decide +kernel, by decide +kernel⟩, rfl, (ce_t (i := 764) (by decide +kernel)), (ce_t (i := 2) (by decide +kernel)), (ce_t (i := 762) (by decide +kernel)), (ce_t (i := 763) (by decide +kernel))⟩
abbrev mX0_settle : ce_Y := (yX0_settle, cX0_settle, 3, (some .int), [])
theorem hX0_settle : ce_MV mX0_settle 1 := ⟨⟨by decide +kernel, by decide +kernel, by decide +kernel⟩, rfl, (ce_t (i := 791) (by decide +kernel)), (ce_t (i := 2) (by decide +kernel)), (ce_t (i := 789) (by decide +kernel)), (ce_t (i := 790) (by decide +kernel))⟩
abbrev mX0_copyFrom : ce_Y := (yX0_copyFrom, cX0_copyFrom, 2, none, [])
theorem hX0_copyFrom : ce_MV mX0_copyFrom 1 := ⟨⟨by decide +kernel, by decide +kernel, by decide +kernel⟩, rfl, (ce_t (i := 237) (by decide +kernel)), (ce_t (i := 2) (by decide +kernel)), (ce_t (i := 235) (by decide +kernel)), (ce_t (i := 236) (by decide +kernel))⟩
abbrev mX1_init : ce_Y := (yX1_init, cX1_init, 2, none, [])
theorem hX1_init : ce_MI mX1_init 0 := ⟨⟨by decide +kernel, by decide +kernel, by decide +kernel⟩, rfl, (ce_t (i := 156) (by decide +kernel)), (ce_t (i := 6) (by decide +kernel)), (ce_t (i := 155) (by decide +kernel)), rfl, rfl⟩
abbrev mX1_remember : ce_Y := (yX1_remember, cX1_remember, 2, none, [])
theorem hX1_remember : ce_MV mX1_remember 1 := ⟨⟨by decide +kernel, by decide +kernel, by decide +kernel⟩, rfl, (ce_t (i := 588) (by decide +kernel)), (ce_t (i := 6) (by decide +kernel)), (ce_t (i := 586) (by decide +kernel)), (ce_t (i := 587) (by decide +kernel))⟩
abbrev mX1_forgetOldest : ce_Y := (yX1_forgetOldest, cX1_forgetOldest, 3, none, [])
theorem hX1_forgetOldest : ce_MV mX1_forgetOldest 0 := ⟨⟨by decide +kernel, by decide +kernel, by decide +kernel⟩, rfl, (ce_t (i := 592) (by decide +kernel)), (ce_t (i := 6) (by decide +kernel)), (ce_t (i := 591) (by decide +kernel)), (ce_s (i := 10) (by decide +kernel))⟩
abbrev mX1_takeBack : ce_Y := (yX1_takeBack, cX1_takeBack, 2, (some .int), [])
theorem hX1_takeBack : ce_MV mX1_takeBack 1 := ⟨⟨by decide +kernel, by decide +kernel, by decide +kernel⟩, rfl, (ce_t (i := 802) (by decide +kernel)), (ce_t (i := 6) (by decide +kernel)), (ce_t (i := 800) (by decide +kernel)), (ce_t (i := 801) (by decide +kernel))⟩
abbrev mX1_forgetAll : ce_Y := (yX1_forgetAll, cX1_forgetAll, 1, none, [])
theorem hX1_forgetAll : ce_MV mX1_forgetAll 0 := ⟨⟨by decide +kernel, by decide +kernel, by decide +kernel⟩, rfl, (ce_t (i := 471) (by decide +kernel)), (ce_t (i := 6) (by decide +kernel)), (ce_t (i := 469) (by decide +kernel)), (ce_t (i := 470) (by decide +kernel))⟩
abbrev mX2_init : ce_Y := (yX2_init, cX2_init, 1, none, [])
theorem hX2_init : ce_MI mX2_init 0 := ⟨⟨by decide +kernel, by decide +kernel, by decide +kernel⟩, rfl, (ce_t (i := 186) (by decide +kernel)), (ce_t (i := 8) (by decide +kernel)), (ce_t (i := 185) (by decide +kernel)), rfl, rfl⟩
abbrev mX2_fewest : ce_Y := (yX2_fewest, cX2_fewest, 6, (some .int), [])
theorem hX2_fewest : ce_MV mX2_fewest 1 := ⟨⟨by decide +kernel, by decide +kernel, by decide +kernel⟩, rfl, (ce_t (i := 314) (by decide +kernel)), (ce_t (i := 8) (by decide +kernel)), (ce_t (i := 312) (by decide +kernel)), (ce_t (i := 313) (by decide +kernel))⟩
abbrev mX2_measure : ce_Y := (yX2_measure, cX2_measure, 5, none, [])
theorem hX2_measure : ce_MV mX2_measure 2 := ⟨⟨by decide +kernel, by decide +kernel, by decide +kernel⟩, rfl, (ce_t (i := 318) (by decide +kernel)), (ce_t (i := 8) (by decide +kernel)), (ce_t (i := 317) (by decide +kernel)), (ce_s (i := 6) (by decide +kernel))⟩
abbrev mX2_packWine : ce_Y := (yX2_packWine, cX2_packWine, 4, none, [])
theorem hX2_packWine : ce_MV mX2_packWine 2 := ⟨⟨by decide +kernel, by decide +kernel, by decide +kernel⟩, rfl, (ce_t (i := 327) (by decide +kernel)), (ce_t (i := 8) (by decide +kernel)), (ce_t (i := 326) (by decide +kernel)), (ce_s (i := 7) (by decide +kernel))⟩
abbrev mX2_canPack : ce_Y := (yX2_canPack, cX2_canPack, 5, (some .boolean), [])
theorem hX2_canPack : ce_MV mX2_canPack 2 := ⟨⟨by decide +kernel, by decide +kernel, by decide +kernel⟩, rfl, (ce_t (i := 331) (by decide +kernel)), (ce_t (i := 8) (by decide +kernel)), (ce_t (i := 330) (by decide +kernel)), (ce_s (i := 8) (by decide +kernel))⟩
abbrev mX3_init : ce_Y := (yX3_init, cX3_init, 1, none, [])
theorem hX3_init : ce_MI mX3_init 0 := ⟨⟨by decide +kernel, by decide +kernel, by decide +kernel⟩, rfl, (ce_t (i := 48) (by decide +kernel)), (ce_t (i := 4) (by decide +kernel)), (ce_t (i := 47) (by decide +kernel)), rfl, rfl⟩
abbrev mX3_knows : ce_Y := (yX3_knows, cX3_knows, 2, (some .boolean), [])
theorem hX3_knows : ce_MV mX3_knows 1 := ⟨⟨by decide +kernel, by decide +kernel, by decide +kernel⟩, rfl, (ce_t (i := 552) (by decide +kernel)), (ce_t (i := 4) (by decide +kernel)), (ce_t (i := 550) (by decide +kernel)), (ce_t (i := 551) (by decide +kernel))⟩
abbrev mX3_factOf : ce_Y := (yX3_factOf, cX3_factOf, 3, (some .int), [])
theorem hX3_factOf : ce_MV mX3_factOf 2 := ⟨⟨by decide +kernel, by decide +kernel, by decide +kernel⟩, rfl, (ce_t (i := 556) (by decide +kernel)), (ce_t (i := 4) (by decide +kernel)), (ce_t (i := 554) (by decide +kernel)), (ce_t (i := 555) (by decide +kernel))⟩
abbrev mX3_binFault : ce_Y := (yX3_binFault, cX3_binFault, 2, (some .int), [])
theorem hX3_binFault : ce_MV mX3_binFault 1 := ⟨⟨by decide +kernel, by decide +kernel, by decide +kernel⟩, rfl, (ce_t (i := 617) (by decide +kernel)), (ce_t (i := 4) (by decide +kernel)), (ce_t (i := 615) (by decide +kernel)), (ce_t (i := 616) (by decide +kernel))⟩
abbrev mX3_install : ce_Y := (yX3_install, cX3_install, 3, (some .int), [])
theorem hX3_install : ce_MV mX3_install 1 := ⟨⟨by decide +kernel, by decide +kernel, by decide +kernel⟩, rfl, (ce_t (i := 289) (by decide +kernel)), (ce_t (i := 4) (by decide +kernel)), (ce_t (i := 287) (by decide +kernel)), (ce_t (i := 288) (by decide +kernel))⟩
abbrev mX3_emptyBins : ce_Y := (yX3_emptyBins, cX3_emptyBins, 3, (some .int), [])
theorem hX3_emptyBins : ce_MV mX3_emptyBins 0 := ⟨⟨by decide +kernel, by decide +kernel, by decide +kernel⟩, rfl, (ce_t (i := 497) (by decide +kernel)), (ce_t (i := 4) (by decide +kernel)), (ce_t (i := 495) (by decide +kernel)), (ce_t (i := 496) (by decide +kernel))⟩
abbrev mX3_roomIn : ce_Y := (yX3_roomIn, cX3_roomIn, 2, (some .int), [])
theorem hX3_roomIn : ce_MV mX3_roomIn 1 := ⟨⟨by decide +kernel, by decide +kernel, by decide +kernel⟩, rfl, (ce_t (i := 505) (by decide +kernel)), (ce_t (i := 4) (by decide +kernel)), (ce_t (i := 503) (by decide +kernel)), (ce_t (i := 504) (by decide +kernel))⟩
abbrev mX3_roomInAll : ce_Y := (yX3_roomInAll, cX3_roomInAll, 3, (some .int), [])
theorem hX3_roomInAll : ce_MV mX3_roomInAll 0 := ⟨⟨by decide +kernel, by decide +kernel, by decide +kernel⟩, rfl, (ce_t (i := 501) (by decide +kernel)), (ce_t (i := 4) (by decide +kernel)), (ce_t (i := 499) (by decide +kernel)), (ce_t (i := 500) (by decide +kernel))⟩
abbrev mX3_takesWine : ce_Y := (yX3_takesWine, cX3_takesWine, 3, (some .boolean), [])
theorem hX3_takesWine : ce_MV mX3_takesWine 2 := ⟨⟨by decide +kernel, by decide +kernel, by decide +kernel⟩, rfl, (ce_t (i := 683) (by decide +kernel)), (ce_t (i := 4) (by decide +kernel)), (ce_t (i := 681) (by decide +kernel)), (ce_t (i := 682) (by decide +kernel))⟩
abbrev mX3_roomForWine : ce_Y := (yX3_roomForWine, cX3_roomForWine, 4, (some .int), [])
theorem hX3_roomForWine : ce_MV mX3_roomForWine 1 := ⟨⟨by decide +kernel, by decide +kernel, by decide +kernel⟩, rfl, (ce_t (i := 679) (by decide +kernel)), (ce_t (i := 4) (by decide +kernel)), (ce_t (i := 677) (by decide +kernel)), (ce_t (i := 678) (by decide +kernel))⟩
abbrev mX3_lay : ce_Y := (yX3_lay, cX3_lay, 7, none, [])
theorem hX3_lay : ce_MV mX3_lay 2 := ⟨⟨by decide +kernel, by decide +kernel, by decide +kernel⟩, rfl, (ce_t (i := 691) (by decide +kernel)), (ce_t (i := 4) (by decide +kernel)), (ce_t (i := 689) (by decide +kernel)), (ce_t (i := 690) (by decide +kernel))⟩
abbrev mX3_binToFillUp : ce_Y := (yX3_binToFillUp, cX3_binToFillUp, 5, (some .int), [])
theorem hX3_binToFillUp : ce_MV mX3_binToFillUp 1 := ⟨⟨by decide +kernel, by decide +kernel, by decide +kernel⟩, rfl, (ce_t (i := 695) (by decide +kernel)), (ce_t (i := 4) (by decide +kernel)), (ce_t (i := 694) (by decide +kernel)), (ce_s (i := 14) (by decide +kernel))⟩
abbrev mX3_emptyBinFor : ce_Y := (yX3_emptyBinFor, cX3_emptyBinFor, 4, (some .int), [])
theorem hX3_emptyBinFor : ce_MV mX3_emptyBinFor 1 := ⟨⟨by decide +kernel, by decide +kernel, by decide +kernel⟩, rfl, (ce_t (i := 699) (by decide +kernel)), (ce_t (i := 4) (by decide +kernel)), (ce_t (i := 698) (by decide +kernel)), (ce_s (i := 15) (by decide +kernel))⟩
abbrev mX3_suitsBetter : ce_Y := (yX3_suitsBetter, cX3_suitsBetter, 3, (some .boolean), [])
theorem hX3_suitsBetter : ce_MS mX3_suitsBetter 3 := ⟨⟨by decide +kernel, by decide +kernel, by decide +kernel⟩, rfl, (ce_t (i := 702) (by decide +kernel)), (ce_t (i := 4) (by decide +kernel)), (ce_t (i := 701) (by decide +kernel))⟩
abbrev mX3_take : ce_Y := (yX3_take, cX3_take, 7, none, [])
theorem hX3_take : ce_MV mX3_take 2 := ⟨⟨by decide +kernel, by decide +kernel, by decide +kernel⟩, rfl, (ce_t (i := 726) (by decide +kernel)), (ce_t (i := 4) (by decide +kernel)), (ce_t (i := 724) (by decide +kernel)), (ce_t (i := 725) (by decide +kernel))⟩
abbrev mX3_binToTakeFrom : ce_Y := (yX3_binToTakeFrom, cX3_binToTakeFrom, 5, (some .int), [])
theorem hX3_binToTakeFrom : ce_MV mX3_binToTakeFrom 1 := ⟨⟨by decide +kernel, by decide +kernel, by decide +kernel⟩, rfl, (ce_t (i := 730) (by decide +kernel)), (ce_t (i := 4) (by decide +kernel)), (ce_t (i := 729) (by decide +kernel)), (ce_s (i := 17) (by decide +kernel))⟩
abbrev mX3_carryFault : ce_Y := (yX3_carryFault, cX3_carryFault, 4, (some .int), [])
theorem hX3_carryFault : ce_MV mX3_carryFault 3 := ⟨⟨by decide +kernel, by decide +kernel, by decide +kernel⟩, rfl, (ce_t (i := 775) (by decide +kernel)), (ce_t (i := 4) (by decide +kernel)), (ce_t (i := 773) (by decide +kernel)), (ce_t (i := 774) (by decide +kernel))⟩
abbrev mX3_carry : ce_Y := (yX3_carry, cX3_carry, 4, (some .int), [])
theorem hX3_carry : ce_MV mX3_carry 3 := ⟨⟨by decide +kernel, by decide +kernel, by decide +kernel⟩, rfl, (ce_t (i := 780) (by decide +kernel)), (ce_t (i := 4) (by decide +kernel)), (ce_t (i := 778) (by decide +kernel)), (ce_t (i := 779) (by decide +kernel))⟩
abbrev mX3_putInto : ce_Y := (yX3_putInto, cX3_putInto, 4, none, [])
theorem hX3_putInto : ce_MV mX3_putInto 3 := ⟨⟨by decide +kernel, by decide +kernel, by decide +kernel⟩, rfl, (ce_t (i := 707) (by decide +kernel)), (ce_t (i := 4) (by decide +kernel)), (ce_t (i := 706) (by decide +kernel)), (ce_s (i := 16) (by decide +kernel))⟩
abbrev mX3_removeFrom : ce_Y := (yX3_removeFrom, cX3_removeFrom, 3, none, [])
theorem hX3_removeFrom : ce_MV mX3_removeFrom 2 := ⟨⟨by decide +kernel, by decide +kernel, by decide +kernel⟩, rfl, (ce_t (i := 734) (by decide +kernel)), (ce_t (i := 4) (by decide +kernel)), (ce_t (i := 733) (by decide +kernel)), (ce_s (i := 18) (by decide +kernel))⟩
abbrev mX3_copyFrom : ce_Y := (yX3_copyFrom, cX3_copyFrom, 2, none, [])
theorem hX3_copyFrom : ce_MV mX3_copyFrom 1 := ⟨⟨by decide +kernel, by decide +kernel, by decide +kernel⟩, rfl, (ce_t (i := 255) (by decide +kernel)), (ce_t (i := 4) (by decide +kernel)), (ce_t (i := 253) (by decide +kernel)), (ce_t (i := 254) (by decide +kernel))⟩
abbrev mX4_init : ce_Y := (yX4_init, cX4_init, 1, none, [])
theorem hX4_init : ce_MI mX4_init 0 := ⟨⟨by decide +kernel, by decide +kernel, by decide +kernel⟩, rfl, (ce_t (i := 173) (by decide +kernel)), (ce_t (i := 7) (by decide +kernel)), (ce_t (i := 172) (by decide +kernel)), rfl, rfl⟩
abbrev mX4_begin : ce_Y := (yX4_begin, cX4_begin, 2, none, [])
theorem hX4_begin : ce_MV mX4_begin 1 := ⟨⟨by decide +kernel, by decide +kernel, by decide +kernel⟩, rfl, (ce_t (i := 813) (by decide +kernel)), (ce_t (i := 7) (by decide +kernel)), (ce_t (i := 811) (by decide +kernel)), (ce_t (i := 812) (by decide +kernel))⟩
abbrev mX4_obeys : ce_Y := (yX4_obeys, cX4_obeys, 5, (some .boolean), [])
theorem hX4_obeys : ce_MV mX4_obeys 1 := ⟨⟨by decide +kernel, by decide +kernel, by decide +kernel⟩, rfl, (ce_t (i := 854) (by decide +kernel)), (ce_t (i := 7) (by decide +kernel)), (ce_t (i := 852) (by decide +kernel)), (ce_t (i := 853) (by decide +kernel))⟩
abbrev mX4_spendEvening : ce_Y := (yX4_spendEvening, cX4_spendEvening, 5, none, [])
theorem hX4_spendEvening : ce_MV mX4_spendEvening 1 := ⟨⟨by decide +kernel, by decide +kernel, by decide +kernel⟩, rfl, (ce_t (i := 907) (by decide +kernel)), (ce_t (i := 7) (by decide +kernel)), (ce_t (i := 905) (by decide +kernel)), (ce_t (i := 906) (by decide +kernel))⟩
abbrev mX4_orders : ce_Y := (yX4_orders, cX4_orders, 5, (some .boolean), [])
theorem hX4_orders : ce_MV mX4_orders 3 := ⟨⟨by decide +kernel, by decide +kernel, by decide +kernel⟩, rfl, (ce_t (i := 858) (by decide +kernel)), (ce_t (i := 7) (by decide +kernel)), (ce_t (i := 856) (by decide +kernel)), (ce_t (i := 857) (by decide +kernel))⟩
abbrev mX4_allocates : ce_Y := (yX4_allocates, cX4_allocates, 3, (some .boolean), [])
theorem hX4_allocates : ce_MV mX4_allocates 1 := ⟨⟨by decide +kernel, by decide +kernel, by decide +kernel⟩, rfl, (ce_t (i := 818) (by decide +kernel)), (ce_t (i := 7) (by decide +kernel)), (ce_t (i := 816) (by decide +kernel)), (ce_t (i := 817) (by decide +kernel))⟩
abbrev mX4_delivers : ce_Y := (yX4_delivers, cX4_delivers, 3, (some .boolean), [])
theorem hX4_delivers : ce_MV mX4_delivers 1 := ⟨⟨by decide +kernel, by decide +kernel, by decide +kernel⟩, rfl, (ce_t (i := 865) (by decide +kernel)), (ce_t (i := 7) (by decide +kernel)), (ce_t (i := 863) (by decide +kernel)), (ce_t (i := 864) (by decide +kernel))⟩
abbrev mX4_drinks : ce_Y := (yX4_drinks, cX4_drinks, 5, (some .boolean), [])
theorem hX4_drinks : ce_MV mX4_drinks 3 := ⟨⟨by decide +kernel, by decide +kernel, by decide +kernel⟩, rfl, (ce_t (i := 871) (by decide +kernel)), (ce_t (i := 7) (by decide +kernel)), (ce_t (i := 869) (by decide +kernel)), (ce_t (i := 870) (by decide +kernel))⟩
abbrev mX4_gives : ce_Y := (yX4_gives, cX4_gives, 6, (some .boolean), [])
theorem hX4_gives : ce_MV mX4_gives 4 := ⟨⟨by decide +kernel, by decide +kernel, by decide +kernel⟩, rfl, (ce_t (i := 877) (by decide +kernel)), (ce_t (i := 7) (by decide +kernel)), (ce_t (i := 875) (by decide +kernel)), (ce_t (i := 876) (by decide +kernel))⟩
abbrev mX4_corks : ce_Y := (yX4_corks, cX4_corks, 4, (some .boolean), [])
theorem hX4_corks : ce_MV mX4_corks 2 := ⟨⟨by decide +kernel, by decide +kernel, by decide +kernel⟩, rfl, (ce_t (i := 883) (by decide +kernel)), (ce_t (i := 7) (by decide +kernel)), (ce_t (i := 881) (by decide +kernel)), (ce_t (i := 882) (by decide +kernel))⟩
abbrev mX4_moves : ce_Y := (yX4_moves, cX4_moves, 5, (some .boolean), [])
theorem hX4_moves : ce_MV mX4_moves 3 := ⟨⟨by decide +kernel, by decide +kernel, by decide +kernel⟩, rfl, (ce_t (i := 889) (by decide +kernel)), (ce_t (i := 7) (by decide +kernel)), (ce_t (i := 887) (by decide +kernel)), (ce_t (i := 888) (by decide +kernel))⟩
abbrev mX5_init : ce_Y := (yX5_init, cX5_init, 1, none, [])
theorem hX5_init : ce_MI mX5_init 0 := ⟨⟨by decide +kernel, by decide +kernel, by decide +kernel⟩, rfl, (ce_t (i := 37) (by decide +kernel)), (ce_t (i := 3) (by decide +kernel)), (ce_t (i := 36) (by decide +kernel)), rfl, rfl⟩
abbrev mX5_of : ce_Y := (yX5_of, cX5_of, 3, (some .int), [])
theorem hX5_of : ce_MV mX5_of 2 := ⟨⟨by decide +kernel, by decide +kernel, by decide +kernel⟩, rfl, (ce_t (i := 302) (by decide +kernel)), (ce_t (i := 3) (by decide +kernel)), (ce_t (i := 300) (by decide +kernel)), (ce_t (i := 301) (by decide +kernel))⟩
abbrev mX5_put : ce_Y := (yX5_put, cX5_put, 4, none, [])
theorem hX5_put : ce_MV mX5_put 3 := ⟨⟨by decide +kernel, by decide +kernel, by decide +kernel⟩, rfl, (ce_t (i := 306) (by decide +kernel)), (ce_t (i := 3) (by decide +kernel)), (ce_t (i := 304) (by decide +kernel)), (ce_t (i := 305) (by decide +kernel))⟩
abbrev mX5_add : ce_Y := (yX5_add, cX5_add, 4, none, [])
theorem hX5_add : ce_MV mX5_add 3 := ⟨⟨by decide +kernel, by decide +kernel, by decide +kernel⟩, rfl, (ce_t (i := 659) (by decide +kernel)), (ce_t (i := 3) (by decide +kernel)), (ce_t (i := 657) (by decide +kernel)), (ce_t (i := 658) (by decide +kernel))⟩
abbrev mX5_ofMember : ce_Y := (yX5_ofMember, cX5_ofMember, 4, (some .int), [])
theorem hX5_ofMember : ce_MV mX5_ofMember 1 := ⟨⟨by decide +kernel, by decide +kernel, by decide +kernel⟩, rfl, (ce_t (i := 525) (by decide +kernel)), (ce_t (i := 3) (by decide +kernel)), (ce_t (i := 523) (by decide +kernel)), (ce_t (i := 524) (by decide +kernel))⟩
abbrev mX5_ofWine : ce_Y := (yX5_ofWine, cX5_ofWine, 4, (some .int), [])
theorem hX5_ofWine : ce_MV mX5_ofWine 1 := ⟨⟨by decide +kernel, by decide +kernel, by decide +kernel⟩, rfl, (ce_t (i := 322) (by decide +kernel)), (ce_t (i := 3) (by decide +kernel)), (ce_t (i := 320) (by decide +kernel)), (ce_t (i := 321) (by decide +kernel))⟩
abbrev mX5_ofAll : ce_Y := (yX5_ofAll, cX5_ofAll, 1, (some .int), [])
theorem hX5_ofAll : ce_MV mX5_ofAll 0 := ⟨⟨by decide +kernel, by decide +kernel, by decide +kernel⟩, rfl, (ce_t (i := 489) (by decide +kernel)), (ce_t (i := 3) (by decide +kernel)), (ce_t (i := 487) (by decide +kernel)), (ce_t (i := 488) (by decide +kernel))⟩
abbrev mX5_copyFrom : ce_Y := (yX5_copyFrom, cX5_copyFrom, 2, none, [])
theorem hX5_copyFrom : ce_MV mX5_copyFrom 1 := ⟨⟨by decide +kernel, by decide +kernel, by decide +kernel⟩, rfl, (ce_t (i := 250) (by decide +kernel)), (ce_t (i := 3) (by decide +kernel)), (ce_t (i := 248) (by decide +kernel)), (ce_t (i := 249) (by decide +kernel))⟩
abbrev mX6_init : ce_Y := (yX6_init, cX6_init, 1, none, [])
theorem hX6_init : ce_MI mX6_init 0 := ⟨⟨by decide +kernel, by decide +kernel, by decide +kernel⟩, rfl, (ce_t (i := 130) (by decide +kernel)), (ce_t (i := 5) (by decide +kernel)), (ce_t (i := 129) (by decide +kernel)), rfl, rfl⟩
abbrev mX6_addingFault : ce_Y := (yX6_addingFault, cX6_addingFault, 2, (some .int), [])
theorem hX6_addingFault : ce_MV mX6_addingFault 1 := ⟨⟨by decide +kernel, by decide +kernel, by decide +kernel⟩, rfl, (ce_t (i := 351) (by decide +kernel)), (ce_t (i := 5) (by decide +kernel)), (ce_t (i := 349) (by decide +kernel)), (ce_t (i := 350) (by decide +kernel))⟩
abbrev mX6_add : ce_Y := (yX6_add, cX6_add, 2, (some .int), [])
theorem hX6_add : ce_MV mX6_add 1 := ⟨⟨by decide +kernel, by decide +kernel, by decide +kernel⟩, rfl, (ce_t (i := 458) (by decide +kernel)), (ce_t (i := 5) (by decide +kernel)), (ce_t (i := 456) (by decide +kernel)), (ce_t (i := 457) (by decide +kernel))⟩
abbrev mX6_wipe : ce_Y := (yX6_wipe, cX6_wipe, 2, (some .int), [])
theorem hX6_wipe : ce_MV mX6_wipe 0 := ⟨⟨by decide +kernel, by decide +kernel, by decide +kernel⟩, rfl, (ce_t (i := 225) (by decide +kernel)), (ce_t (i := 5) (by decide +kernel)), (ce_t (i := 223) (by decide +kernel)), (ce_t (i := 224) (by decide +kernel))⟩
abbrev mX6_read : ce_Y := (yX6_read, cX6_read, 2, (some .int), [])
theorem hX6_read : ce_MV mX6_read 0 := ⟨⟨by decide +kernel, by decide +kernel, by decide +kernel⟩, rfl, (ce_t (i := 233) (by decide +kernel)), (ce_t (i := 5) (by decide +kernel)), (ce_t (i := 231) (by decide +kernel)), (ce_t (i := 232) (by decide +kernel))⟩
abbrev mX6_readPart : ce_Y := (yX6_readPart, cX6_readPart, 1, (some .boolean), [])
theorem hX6_readPart : ce_MV mX6_readPart 0 := ⟨⟨by decide +kernel, by decide +kernel, by decide +kernel⟩, rfl, (ce_t (i := 260) (by decide +kernel)), (ce_t (i := 5) (by decide +kernel)), (ce_t (i := 259) (by decide +kernel)), (ce_s (i := 0) (by decide +kernel))⟩
abbrev mX6_readMember : ce_Y := (yX6_readMember, cX6_readMember, 2, (some .boolean), [])
theorem hX6_readMember : ce_MV mX6_readMember 0 := ⟨⟨by decide +kernel, by decide +kernel, by decide +kernel⟩, rfl, (ce_t (i := 264) (by decide +kernel)), (ce_t (i := 5) (by decide +kernel)), (ce_t (i := 263) (by decide +kernel)), (ce_s (i := 1) (by decide +kernel))⟩
abbrev mX6_readWine : ce_Y := (yX6_readWine, cX6_readWine, 3, (some .boolean), [])
theorem hX6_readWine : ce_MV mX6_readWine 0 := ⟨⟨by decide +kernel, by decide +kernel, by decide +kernel⟩, rfl, (ce_t (i := 277) (by decide +kernel)), (ce_t (i := 5) (by decide +kernel)), (ce_t (i := 276) (by decide +kernel)), (ce_s (i := 3) (by decide +kernel))⟩
abbrev mX6_readBin : ce_Y := (yX6_readBin, cX6_readBin, 2, (some .boolean), [])
theorem hX6_readBin : ce_MV mX6_readBin 0 := ⟨⟨by decide +kernel, by decide +kernel, by decide +kernel⟩, rfl, (ce_t (i := 285) (by decide +kernel)), (ce_t (i := 5) (by decide +kernel)), (ce_t (i := 284) (by decide +kernel)), (ce_s (i := 4) (by decide +kernel))⟩
abbrev mX6_readOrder : ce_Y := (yX6_readOrder, cX6_readOrder, 4, (some .boolean), [])
theorem hX6_readOrder : ce_MV mX6_readOrder 0 := ⟨⟨by decide +kernel, by decide +kernel, by decide +kernel⟩, rfl, (ce_t (i := 294) (by decide +kernel)), (ce_t (i := 5) (by decide +kernel)), (ce_t (i := 293) (by decide +kernel)), (ce_s (i := 5) (by decide +kernel))⟩
abbrev mX6_readNumber : ce_Y := (yX6_readNumber, cX6_readNumber, 7, (some .int), [])
theorem hX6_readNumber : ce_MV mX6_readNumber 3 := ⟨⟨by decide +kernel, by decide +kernel, by decide +kernel⟩, rfl, (ce_t (i := 268) (by decide +kernel)), (ce_t (i := 5) (by decide +kernel)), (ce_t (i := 267) (by decide +kernel)), (ce_s (i := 2) (by decide +kernel))⟩
abbrev mX7_init : ce_Y := (yX7_init, cX7_init, 2, none, [])
theorem hX7_init : ce_MI mX7_init 0 := ⟨⟨by decide +kernel, by decide +kernel, by decide +kernel⟩, rfl, (ce_t (i := 23) (by decide +kernel)), (ce_t (i := 1) (by decide +kernel)), (ce_t (i := 22) (by decide +kernel)), rfl, rfl⟩
abbrev mX7_append : ce_Y := (yX7_append, cX7_append, 2, (some .int), [])
theorem hX7_append : ce_MV mX7_append 1 := ⟨⟨by decide +kernel, by decide +kernel, by decide +kernel⟩, rfl, (ce_t (i := 347) (by decide +kernel)), (ce_t (i := 1) (by decide +kernel)), (ce_t (i := 345) (by decide +kernel)), (ce_t (i := 346) (by decide +kernel))⟩
abbrev mX7_clearText : ce_Y := (yX7_clearText, cX7_clearText, 1, (some .int), [])
theorem hX7_clearText : ce_MV mX7_clearText 0 := ⟨⟨by decide +kernel, by decide +kernel, by decide +kernel⟩, rfl, (ce_t (i := 221) (by decide +kernel)), (ce_t (i := 1) (by decide +kernel)), (ce_t (i := 219) (by decide +kernel)), (ce_t (i := 220) (by decide +kernel))⟩
abbrev mX7_errorPosition : ce_Y := (yX7_errorPosition, cX7_errorPosition, 1, (some .int), [])
theorem hX7_errorPosition : ce_MV mX7_errorPosition 0 := ⟨⟨by decide +kernel, by decide +kernel, by decide +kernel⟩, rfl, (ce_t (i := 229) (by decide +kernel)), (ce_t (i := 1) (by decide +kernel)), (ce_t (i := 227) (by decide +kernel)), (ce_t (i := 228) (by decide +kernel))⟩
abbrev mX7_load : ce_Y := (yX7_load, cX7_load, 2, (some .int), [])
theorem hX7_load : ce_MV mX7_load 0 := ⟨⟨by decide +kernel, by decide +kernel, by decide +kernel⟩, rfl, (ce_t (i := 465) (by decide +kernel)), (ce_t (i := 1) (by decide +kernel)), (ce_t (i := 463) (by decide +kernel)), (ce_t (i := 464) (by decide +kernel))⟩
abbrev mX7_about : ce_Y := (yX7_about, cX7_about, 2, (some .int), [])
theorem hX7_about : ce_MV mX7_about 1 := ⟨⟨by decide +kernel, by decide +kernel, by decide +kernel⟩, rfl, (ce_t (i := 478) (by decide +kernel)), (ce_t (i := 1) (by decide +kernel)), (ce_t (i := 476) (by decide +kernel)), (ce_t (i := 477) (by decide +kernel))⟩
abbrev mX7_member : ce_Y := (yX7_member, cX7_member, 3, (some .int), [])
theorem hX7_member : ce_MV mX7_member 2 := ⟨⟨by decide +kernel, by decide +kernel, by decide +kernel⟩, rfl, (ce_t (i := 513) (by decide +kernel)), (ce_t (i := 1) (by decide +kernel)), (ce_t (i := 511) (by decide +kernel)), (ce_t (i := 512) (by decide +kernel))⟩
abbrev mX7_wine : ce_Y := (yX7_wine, cX7_wine, 3, (some .int), [])
theorem hX7_wine : ce_MV mX7_wine 2 := ⟨⟨by decide +kernel, by decide +kernel, by decide +kernel⟩, rfl, (ce_t (i := 532) (by decide +kernel)), (ce_t (i := 1) (by decide +kernel)), (ce_t (i := 530) (by decide +kernel)), (ce_t (i := 531) (by decide +kernel))⟩
abbrev mX7_bin : ce_Y := (yX7_bin, cX7_bin, 3, (some .int), [])
theorem hX7_bin : ce_MV mX7_bin 2 := ⟨⟨by decide +kernel, by decide +kernel, by decide +kernel⟩, rfl, (ce_t (i := 548) (by decide +kernel)), (ce_t (i := 1) (by decide +kernel)), (ce_t (i := 546) (by decide +kernel)), (ce_t (i := 547) (by decide +kernel))⟩
abbrev mX7_has : ce_Y := (yX7_has, cX7_has, 4, (some .int), [])
theorem hX7_has : ce_MV mX7_has 3 := ⟨⟨by decide +kernel, by decide +kernel, by decide +kernel⟩, rfl, (ce_t (i := 563) (by decide +kernel)), (ce_t (i := 1) (by decide +kernel)), (ce_t (i := 561) (by decide +kernel)), (ce_t (i := 562) (by decide +kernel))⟩
abbrev mX7_addMember : ce_Y := (yX7_addMember, cX7_addMember, 2, (some .int), [])
theorem hX7_addMember : ce_MV mX7_addMember 1 := ⟨⟨by decide +kernel, by decide +kernel, by decide +kernel⟩, rfl, (ce_t (i := 580) (by decide +kernel)), (ce_t (i := 1) (by decide +kernel)), (ce_t (i := 578) (by decide +kernel)), (ce_t (i := 579) (by decide +kernel))⟩
abbrev mX7_addWine : ce_Y := (yX7_addWine, cX7_addWine, 3, (some .int), [])
theorem hX7_addWine : ce_MV mX7_addWine 2 := ⟨⟨by decide +kernel, by decide +kernel, by decide +kernel⟩, rfl, (ce_t (i := 601) (by decide +kernel)), (ce_t (i := 1) (by decide +kernel)), (ce_t (i := 599) (by decide +kernel)), (ce_t (i := 600) (by decide +kernel))⟩
abbrev mX7_addBin : ce_Y := (yX7_addBin, cX7_addBin, 2, (some .int), [])
theorem hX7_addBin : ce_MV mX7_addBin 1 := ⟨⟨by decide +kernel, by decide +kernel, by decide +kernel⟩, rfl, (ce_t (i := 613) (by decide +kernel)), (ce_t (i := 1) (by decide +kernel)), (ce_t (i := 611) (by decide +kernel)), (ce_t (i := 612) (by decide +kernel))⟩
abbrev mX7_order : ce_Y := (yX7_order, cX7_order, 4, (some .int), [])
theorem hX7_order : ce_MV mX7_order 3 := ⟨⟨by decide +kernel, by decide +kernel, by decide +kernel⟩, rfl, (ce_t (i := 625) (by decide +kernel)), (ce_t (i := 1) (by decide +kernel)), (ce_t (i := 623) (by decide +kernel)), (ce_t (i := 624) (by decide +kernel))⟩
abbrev mX7_allocate : ce_Y := (yX7_allocate, cX7_allocate, 2, (some .int), [])
theorem hX7_allocate : ce_MV mX7_allocate 1 := ⟨⟨by decide +kernel, by decide +kernel, by decide +kernel⟩, rfl, (ce_t (i := 638) (by decide +kernel)), (ce_t (i := 1) (by decide +kernel)), (ce_t (i := 636) (by decide +kernel)), (ce_t (i := 637) (by decide +kernel))⟩
abbrev mX7_deliver : ce_Y := (yX7_deliver, cX7_deliver, 2, (some .int), [])
theorem hX7_deliver : ce_MV mX7_deliver 1 := ⟨⟨by decide +kernel, by decide +kernel, by decide +kernel⟩, rfl, (ce_t (i := 671) (by decide +kernel)), (ce_t (i := 1) (by decide +kernel)), (ce_t (i := 669) (by decide +kernel)), (ce_t (i := 670) (by decide +kernel))⟩
abbrev mX7_drink : ce_Y := (yX7_drink, cX7_drink, 4, (some .int), [])
theorem hX7_drink : ce_MV mX7_drink 3 := ⟨⟨by decide +kernel, by decide +kernel, by decide +kernel⟩, rfl, (ce_t (i := 714) (by decide +kernel)), (ce_t (i := 1) (by decide +kernel)), (ce_t (i := 712) (by decide +kernel)), (ce_t (i := 713) (by decide +kernel))⟩
abbrev mX7_give : ce_Y := (yX7_give, cX7_give, 5, (some .int), [])
theorem hX7_give : ce_MV mX7_give 4 := ⟨⟨by decide +kernel, by decide +kernel, by decide +kernel⟩, rfl, (ce_t (i := 741) (by decide +kernel)), (ce_t (i := 1) (by decide +kernel)), (ce_t (i := 739) (by decide +kernel)), (ce_t (i := 740) (by decide +kernel))⟩
abbrev mX7_cork : ce_Y := (yX7_cork, cX7_cork, 3, (some .int), [])
theorem hX7_cork : ce_MV mX7_cork 2 := ⟨⟨by decide +kernel, by decide +kernel, by decide +kernel⟩, rfl, (ce_t (i := 756) (by decide +kernel)), (ce_t (i := 1) (by decide +kernel)), (ce_t (i := 754) (by decide +kernel)), (ce_t (i := 755) (by decide +kernel))⟩
abbrev mX7_move : ce_Y := (yX7_move, cX7_move, 4, (some .int), [])
theorem hX7_move : ce_MV mX7_move 3 := ⟨⟨by decide +kernel, by decide +kernel, by decide +kernel⟩, rfl, (ce_t (i := 771) (by decide +kernel)), (ce_t (i := 1) (by decide +kernel)), (ce_t (i := 769) (by decide +kernel)), (ce_t (i := 770) (by decide +kernel))⟩
abbrev mX7_pay : ce_Y := (yX7_pay, cX7_pay, 2, (some .int), [])
theorem hX7_pay : ce_MV mX7_pay 1 := ⟨⟨by decide +kernel, by decide +kernel, by decide +kernel⟩, rfl, (ce_t (i := 787) (by decide +kernel)), (ce_t (i := 1) (by decide +kernel)), (ce_t (i := 785) (by decide +kernel)), (ce_t (i := 786) (by decide +kernel))⟩
abbrev mX7_undo : ce_Y := (yX7_undo, cX7_undo, 1, (some .int), [])
theorem hX7_undo : ce_MV mX7_undo 0 := ⟨⟨by decide +kernel, by decide +kernel, by decide +kernel⟩, rfl, (ce_t (i := 798) (by decide +kernel)), (ce_t (i := 1) (by decide +kernel)), (ce_t (i := 796) (by decide +kernel)), (ce_t (i := 797) (by decide +kernel))⟩
abbrev mX7_wouldGet : ce_Y := (yX7_wouldGet, cX7_wouldGet, 3, (some .int), [])
theorem hX7_wouldGet : ce_MV mX7_wouldGet 2 := ⟨⟨by decide +kernel, by decide +kernel, by decide +kernel⟩, rfl, (ce_t (i := 809) (by decide +kernel)), (ce_t (i := 1) (by decide +kernel)), (ce_t (i := 807) (by decide +kernel)), (ce_t (i := 808) (by decide +kernel))⟩
abbrev mX7_roomFor : ce_Y := (yX7_roomFor, cX7_roomFor, 2, (some .int), [])
theorem hX7_roomFor : ce_MV mX7_roomFor 1 := ⟨⟨by decide +kernel, by decide +kernel, by decide +kernel⟩, rfl, (ce_t (i := 828) (by decide +kernel)), (ce_t (i := 1) (by decide +kernel)), (ce_t (i := 826) (by decide +kernel)), (ce_t (i := 827) (by decide +kernel))⟩
abbrev mX7_fewestBins : ce_Y := (yX7_fewestBins, cX7_fewestBins, 1, (some .int), [])
theorem hX7_fewestBins : ce_MV mX7_fewestBins 0 := ⟨⟨by decide +kernel, by decide +kernel, by decide +kernel⟩, rfl, (ce_t (i := 310) (by decide +kernel)), (ce_t (i := 1) (by decide +kernel)), (ce_t (i := 308) (by decide +kernel)), (ce_t (i := 309) (by decide +kernel))⟩
abbrev mX7_shortest : ce_Y := (yX7_shortest, cX7_shortest, 6, (some .int), [])
theorem hX7_shortest : ce_MV mX7_shortest 1 := ⟨⟨by decide +kernel, by decide +kernel, by decide +kernel⟩, rfl, (ce_t (i := 836) (by decide +kernel)), (ce_t (i := 1) (by decide +kernel)), (ce_t (i := 834) (by decide +kernel)), (ce_t (i := 835) (by decide +kernel))⟩
abbrev mX7_runScript : ce_Y := (yX7_runScript, cX7_runScript, 5, (some .int), [])
theorem hX7_runScript : ce_MV mX7_runScript 2 := ⟨⟨by decide +kernel, by decide +kernel, by decide +kernel⟩, rfl, (ce_t (i := 843) (by decide +kernel)), (ce_t (i := 1) (by decide +kernel)), (ce_t (i := 841) (by decide +kernel)), (ce_t (i := 842) (by decide +kernel))⟩
abbrev mX7_simulate : ce_Y := (yX7_simulate, cX7_simulate, 7, (some .int), [])
theorem hX7_simulate : ce_MV mX7_simulate 2 := ⟨⟨by decide +kernel, by decide +kernel, by decide +kernel⟩, rfl, (ce_t (i := 901) (by decide +kernel)), (ce_t (i := 1) (by decide +kernel)), (ce_t (i := 899) (by decide +kernel)), (ce_t (i := 900) (by decide +kernel))⟩
abbrev mX7_save : ce_Y := (yX7_save, cX7_save, 2, (some .int), [])
theorem hX7_save : ce_MV mX7_save 1 := ⟨⟨by decide +kernel, by decide +kernel, by decide +kernel⟩, rfl, (ce_t (i := 916) (by decide +kernel)), (ce_t (i := 1) (by decide +kernel)), (ce_t (i := 914) (by decide +kernel)), (ce_t (i := 915) (by decide +kernel))⟩
abbrev mX7_restore : ce_Y := (yX7_restore, cX7_restore, 2, (some .int), [])
theorem hX7_restore : ce_MV mX7_restore 1 := ⟨⟨by decide +kernel, by decide +kernel, by decide +kernel⟩, rfl, (ce_t (i := 926) (by decide +kernel)), (ce_t (i := 1) (by decide +kernel)), (ce_t (i := 924) (by decide +kernel)), (ce_t (i := 925) (by decide +kernel))⟩
abbrev mX7_check : ce_Y := (yX7_check, cX7_check, 1, none, [])
theorem hX7_check : ce_MS mX7_check 1 := ⟨⟨by decide +kernel, by decide +kernel, by decide +kernel⟩, rfl, (ce_t (i := 354) (by decide +kernel)), (ce_t (i := 1) (by decide +kernel)), (ce_t (i := 353) (by decide +kernel))⟩
abbrev mX7_rangeFault : ce_Y := (yX7_rangeFault, cX7_rangeFault, 3, (some .int), [])
theorem hX7_rangeFault : ce_MS mX7_rangeFault 3 := ⟨⟨by decide +kernel, by decide +kernel, by decide +kernel⟩, rfl, (ce_t (i := 481) (by decide +kernel)), (ce_t (i := 1) (by decide +kernel)), (ce_t (i := 480) (by decide +kernel))⟩
abbrev mX7_isSlot : ce_Y := (yX7_isSlot, cX7_isSlot, 1, (some .boolean), [])
theorem hX7_isSlot : ce_MS mX7_isSlot 1 := ⟨⟨by decide +kernel, by decide +kernel, by decide +kernel⟩, rfl, (ce_t (i := 919) (by decide +kernel)), (ce_t (i := 1) (by decide +kernel)), (ce_t (i := 918) (by decide +kernel))⟩
abbrev mX7_restoreFault : ce_Y := (yX7_restoreFault, cX7_restoreFault, 2, (some .int), [])
theorem hX7_restoreFault : ce_MV mX7_restoreFault 1 := ⟨⟨by decide +kernel, by decide +kernel, by decide +kernel⟩, rfl, (ce_t (i := 930) (by decide +kernel)), (ce_t (i := 1) (by decide +kernel)), (ce_t (i := 929) (by decide +kernel)), (ce_s (i := 19) (by decide +kernel))⟩
abbrev mX7_scriptFault : ce_Y := (yX7_scriptFault, cX7_scriptFault, 6, (some .int), [])
theorem hX7_scriptFault : ce_MS mX7_scriptFault 2 := ⟨⟨by decide +kernel, by decide +kernel, by decide +kernel⟩, rfl, (ce_t (i := 846) (by decide +kernel)), (ce_t (i := 1) (by decide +kernel)), (ce_t (i := 845) (by decide +kernel))⟩
abbrev mX7_groupAt : ce_Y := (yX7_groupAt, cX7_groupAt, 6, (some .int), [])
theorem hX7_groupAt : ce_MS mX7_groupAt 2 := ⟨⟨by decide +kernel, by decide +kernel, by decide +kernel⟩, rfl, (ce_t (i := 850) (by decide +kernel)), (ce_t (i := 1) (by decide +kernel)), (ce_t (i := 849) (by decide +kernel))⟩
abbrev mX7_sumOf : ce_Y := (yX7_sumOf, cX7_sumOf, 3, (some .int), [])
theorem hX7_sumOf : ce_MS mX7_sumOf 1 := ⟨⟨by decide +kernel, by decide +kernel, by decide +kernel⟩, rfl, (ce_t (i := 492) (by decide +kernel)), (ce_t (i := 1) (by decide +kernel)), (ce_t (i := 491) (by decide +kernel))⟩
abbrev mX7_copyRow : ce_Y := (yX7_copyRow, cX7_copyRow, 2, none, [])
theorem hX7_copyRow : ce_MS mX7_copyRow 2 := ⟨⟨by decide +kernel, by decide +kernel, by decide +kernel⟩, rfl, (ce_t (i := 240) (by decide +kernel)), (ce_t (i := 1) (by decide +kernel)), (ce_t (i := 239) (by decide +kernel))⟩
abbrev mX8_init : ce_Y := (yX8_init, cX8_init, 1, none, [])
theorem hX8_init : ce_MI mX8_init 0 := ⟨⟨by decide +kernel, by decide +kernel, by decide +kernel⟩, rfl, (ce_t (i := 935) (by decide +kernel)), (ce_t (i := 9) (by decide +kernel)), (ce_t (i := 934) (by decide +kernel)), rfl, rfl⟩
abbrev mX8_thrown : ce_Y := (yX8_thrown, cX8_thrown, 1, (some .int), [])
theorem hX8_thrown : ce_MV mX8_thrown 0 := ⟨⟨by decide +kernel, by decide +kernel, by decide +kernel⟩, rfl, (ce_t (i := 986) (by decide +kernel)), (ce_t (i := 9) (by decide +kernel)), (ce_t (i := 984) (by decide +kernel)), (ce_t (i := 985) (by decide +kernel))⟩
abbrev mX8_refused : ce_Y := (yX8_refused, cX8_refused, 2, (some .boolean), [])
theorem hX8_refused : ce_MV mX8_refused 1 := ⟨⟨by decide +kernel, by decide +kernel, by decide +kernel⟩, rfl, (ce_t (i := 998) (by decide +kernel)), (ce_t (i := 9) (by decide +kernel)), (ce_t (i := 997) (by decide +kernel)), (ce_s (i := 20) (by decide +kernel))⟩
abbrev mX8_in : ce_Y := (yX8_in, cX8_in, 6, (some .boolean), [])
theorem hX8_in : ce_MS mX8_in 3 := ⟨⟨by decide +kernel, by decide +kernel, by decide +kernel⟩, rfl, (ce_t (i := 994) (by decide +kernel)), (ce_t (i := 9) (by decide +kernel)), (ce_t (i := 993) (by decide +kernel))⟩
abbrev mX8_copy : ce_Y := (yX8_copy, cX8_copy, 6, none, [])
theorem hX8_copy : ce_MS mX8_copy 5 := ⟨⟨by decide +kernel, by decide +kernel, by decide +kernel⟩, rfl, (ce_t (i := 1060) (by decide +kernel)), (ce_t (i := 9) (by decide +kernel)), (ce_t (i := 1059) (by decide +kernel))⟩
abbrev mX8_tenTo : ce_Y := (yX8_tenTo, cX8_tenTo, 4, (some .long), [])
theorem hX8_tenTo : ce_MS mX8_tenTo 1 := ⟨⟨by decide +kernel, by decide +kernel, by decide +kernel⟩, rfl, (ce_t (i := 1262) (by decide +kernel)), (ce_t (i := 9) (by decide +kernel)), (ce_t (i := 1261) (by decide +kernel))⟩
abbrev mX8_remember : ce_Y := (yX8_remember, cX8_remember, 1, none, [])
theorem hX8_remember : ce_MV mX8_remember 0 := ⟨⟨by decide +kernel, by decide +kernel, by decide +kernel⟩, rfl, (ce_t (i := 1128) (by decide +kernel)), (ce_t (i := 9) (by decide +kernel)), (ce_t (i := 1127) (by decide +kernel)), (ce_s (i := 30) (by decide +kernel))⟩
abbrev mX8_begin : ce_Y := (yX8_begin, cX8_begin, 1, none, [])
theorem hX8_begin : ce_MV mX8_begin 0 := ⟨⟨by decide +kernel, by decide +kernel, by decide +kernel⟩, rfl, (ce_t (i := 1267) (by decide +kernel)), (ce_t (i := 9) (by decide +kernel)), (ce_t (i := 1266) (by decide +kernel)), (ce_s (i := 35) (by decide +kernel))⟩
abbrev mX8_memberAt : ce_Y := (yX8_memberAt, cX8_memberAt, 1, (some .int), [])
theorem hX8_memberAt : ce_MS mX8_memberAt 1 := ⟨⟨by decide +kernel, by decide +kernel, by decide +kernel⟩, rfl, (ce_t (i := 1038) (by decide +kernel)), (ce_t (i := 9) (by decide +kernel)), (ce_t (i := 1037) (by decide +kernel))⟩
abbrev mX8_wineAt : ce_Y := (yX8_wineAt, cX8_wineAt, 1, (some .int), [])
theorem hX8_wineAt : ce_MS mX8_wineAt 1 := ⟨⟨by decide +kernel, by decide +kernel, by decide +kernel⟩, rfl, (ce_t (i := 1044) (by decide +kernel)), (ce_t (i := 9) (by decide +kernel)), (ce_t (i := 1043) (by decide +kernel))⟩
abbrev mX8_binAt : ce_Y := (yX8_binAt, cX8_binAt, 1, (some .int), [])
theorem hX8_binAt : ce_MS mX8_binAt 1 := ⟨⟨by decide +kernel, by decide +kernel, by decide +kernel⟩, rfl, (ce_t (i := 1050) (by decide +kernel)), (ce_t (i := 9) (by decide +kernel)), (ce_t (i := 1049) (by decide +kernel))⟩
abbrev mX8_hold : ce_Y := (yX8_hold, cX8_hold, 2, (some .int), [])
theorem hX8_hold : ce_MS mX8_hold 2 := ⟨⟨by decide +kernel, by decide +kernel, by decide +kernel⟩, rfl, (ce_t (i := 1053) (by decide +kernel)), (ce_t (i := 9) (by decide +kernel)), (ce_t (i := 1052) (by decide +kernel))⟩
abbrev mX8_allOf : ce_Y := (yX8_allOf, cX8_allOf, 5, (some .int), [])
theorem hX8_allOf : ce_MS mX8_allOf 3 := ⟨⟨by decide +kernel, by decide +kernel, by decide +kernel⟩, rfl, (ce_t (i := 1106) (by decide +kernel)), (ce_t (i := 9) (by decide +kernel)), (ce_t (i := 1105) (by decide +kernel))⟩
abbrev mX8_ownedBy : ce_Y := (yX8_ownedBy, cX8_ownedBy, 4, (some .int), [])
theorem hX8_ownedBy : ce_MS mX8_ownedBy 2 := ⟨⟨by decide +kernel, by decide +kernel, by decide +kernel⟩, rfl, (ce_t (i := 1094) (by decide +kernel)), (ce_t (i := 9) (by decide +kernel)), (ce_t (i := 1093) (by decide +kernel))⟩
abbrev mX8_cellar : ce_Y := (yX8_cellar, cX8_cellar, 3, (some .int), [])
theorem hX8_cellar : ce_MS mX8_cellar 1 := ⟨⟨by decide +kernel, by decide +kernel, by decide +kernel⟩, rfl, (ce_t (i := 1067) (by decide +kernel)), (ce_t (i := 9) (by decide +kernel)), (ce_t (i := 1066) (by decide +kernel))⟩
abbrev mX8_emptyBins : ce_Y := (yX8_emptyBins, cX8_emptyBins, 3, (some .int), [])
theorem hX8_emptyBins : ce_MS mX8_emptyBins 1 := ⟨⟨by decide +kernel, by decide +kernel, by decide +kernel⟩, rfl, (ce_t (i := 1076) (by decide +kernel)), (ce_t (i := 9) (by decide +kernel)), (ce_t (i := 1075) (by decide +kernel))⟩
abbrev mX8_roomIn : ce_Y := (yX8_roomIn, cX8_roomIn, 2, (some .int), [])
theorem hX8_roomIn : ce_MS mX8_roomIn 2 := ⟨⟨by decide +kernel, by decide +kernel, by decide +kernel⟩, rfl, (ce_t (i := 1082) (by decide +kernel)), (ce_t (i := 9) (by decide +kernel)), (ce_t (i := 1081) (by decide +kernel))⟩
abbrev mX8_ofWine : ce_Y := (yX8_ofWine, cX8_ofWine, 4, (some .int), [])
theorem hX8_ofWine : ce_MS mX8_ofWine 2 := ⟨⟨by decide +kernel, by decide +kernel, by decide +kernel⟩, rfl, (ce_t (i := 1070) (by decide +kernel)), (ce_t (i := 9) (by decide +kernel)), (ce_t (i := 1069) (by decide +kernel))⟩
abbrev mX8_hasWine : ce_Y := (yX8_hasWine, cX8_hasWine, 3, (some .boolean), [])
theorem hX8_hasWine : ce_MS mX8_hasWine 3 := ⟨⟨by decide +kernel, by decide +kernel, by decide +kernel⟩, rfl, (ce_t (i := 1175) (by decide +kernel)), (ce_t (i := 9) (by decide +kernel)), (ce_t (i := 1174) (by decide +kernel))⟩
abbrev mX8_tightest : ce_Y := (yX8_tightest, cX8_tightest, 5, (some .int), [])
theorem hX8_tightest : ce_MS mX8_tightest 2 := ⟨⟨by decide +kernel, by decide +kernel, by decide +kernel⟩, rfl, (ce_t (i := 1184) (by decide +kernel)), (ce_t (i := 9) (by decide +kernel)), (ce_t (i := 1183) (by decide +kernel))⟩
abbrev mX8_emptyFor : ce_Y := (yX8_emptyFor, cX8_emptyFor, 6, (some .int), [])
theorem hX8_emptyFor : ce_MS mX8_emptyFor 2 := ⟨⟨by decide +kernel, by decide +kernel, by decide +kernel⟩, rfl, (ce_t (i := 1187) (by decide +kernel)), (ce_t (i := 9) (by decide +kernel)), (ce_t (i := 1186) (by decide +kernel))⟩
abbrev mX8_lay : ce_Y := (yX8_lay, cX8_lay, 6, none, [])
theorem hX8_lay : ce_MS mX8_lay 3 := ⟨⟨by decide +kernel, by decide +kernel, by decide +kernel⟩, rfl, (ce_t (i := 1181) (by decide +kernel)), (ce_t (i := 9) (by decide +kernel)), (ce_t (i := 1180) (by decide +kernel))⟩
abbrev mX8_take : ce_Y := (yX8_take, cX8_take, 6, none, [])
theorem hX8_take : ce_MS mX8_take 3 := ⟨⟨by decide +kernel, by decide +kernel, by decide +kernel⟩, rfl, (ce_t (i := 1197) (by decide +kernel)), (ce_t (i := 9) (by decide +kernel)), (ce_t (i := 1196) (by decide +kernel))⟩
abbrev mX8_roomOf : ce_Y := (yX8_roomOf, cX8_roomOf, 4, (some .int), [])
theorem hX8_roomOf : ce_MS mX8_roomOf 2 := ⟨⟨by decide +kernel, by decide +kernel, by decide +kernel⟩, rfl, (ce_t (i := 1172) (by decide +kernel)), (ce_t (i := 9) (by decide +kernel)), (ce_t (i := 1171) (by decide +kernel))⟩
abbrev mX8_layGot : ce_Y := (yX8_layGot, cX8_layGot, 9, (some .int), [])
theorem hX8_layGot : ce_MV mX8_layGot 2 := ⟨⟨by decide +kernel, by decide +kernel, by decide +kernel⟩, rfl, (ce_t (i := 1155) (by decide +kernel)), (ce_t (i := 9) (by decide +kernel)), (ce_t (i := 1154) (by decide +kernel)), (ce_s (i := 32) (by decide +kernel))⟩
abbrev mX8_isAhead : ce_Y := (yX8_isAhead, cX8_isAhead, 4, (some .boolean), [])
theorem hX8_isAhead : ce_MV mX8_isAhead 3 := ⟨⟨by decide +kernel, by decide +kernel, by decide +kernel⟩, rfl, (ce_t (i := 1159) (by decide +kernel)), (ce_t (i := 9) (by decide +kernel)), (ce_t (i := 1158) (by decide +kernel)), (ce_s (i := 33) (by decide +kernel))⟩
abbrev mX8_half : ce_Y := (yX8_half, cX8_half, 1, (some .int), [])
theorem hX8_half : ce_MS mX8_half 1 := ⟨⟨by decide +kernel, by decide +kernel, by decide +kernel⟩, rfl, (ce_t (i := 1162) (by decide +kernel)), (ce_t (i := 9) (by decide +kernel)), (ce_t (i := 1161) (by decide +kernel))⟩
abbrev mX8_goAllocate : ce_Y := (yX8_goAllocate, cX8_goAllocate, 6, (some .int), [])
theorem hX8_goAllocate : ce_MV mX8_goAllocate 2 := ⟨⟨by decide +kernel, by decide +kernel, by decide +kernel⟩, rfl, (ce_t (i := 1151) (by decide +kernel)), (ce_t (i := 9) (by decide +kernel)), (ce_t (i := 1150) (by decide +kernel)), (ce_s (i := 31) (by decide +kernel))⟩
abbrev mX8_canDeliver : ce_Y := (yX8_canDeliver, cX8_canDeliver, 2, (some .boolean), [])
theorem hX8_canDeliver : ce_MS mX8_canDeliver 2 := ⟨⟨by decide +kernel, by decide +kernel, by decide +kernel⟩, rfl, (ce_t (i := 1169) (by decide +kernel)), (ce_t (i := 9) (by decide +kernel)), (ce_t (i := 1168) (by decide +kernel))⟩
abbrev mX8_goDeliver : ce_Y := (yX8_goDeliver, cX8_goDeliver, 5, (some .int), [])
theorem hX8_goDeliver : ce_MS mX8_goDeliver 2 := ⟨⟨by decide +kernel, by decide +kernel, by decide +kernel⟩, rfl, (ce_t (i := 1178) (by decide +kernel)), (ce_t (i := 9) (by decide +kernel)), (ce_t (i := 1177) (by decide +kernel))⟩
abbrev mX8_goDrink : ce_Y := (yX8_goDrink, cX8_goDrink, 4, none, [])
theorem hX8_goDrink : ce_MS mX8_goDrink 4 := ⟨⟨by decide +kernel, by decide +kernel, by decide +kernel⟩, rfl, (ce_t (i := 1194) (by decide +kernel)), (ce_t (i := 9) (by decide +kernel)), (ce_t (i := 1193) (by decide +kernel))⟩
abbrev mX8_goGive : ce_Y := (yX8_goGive, cX8_goGive, 5, none, [])
theorem hX8_goGive : ce_MS mX8_goGive 5 := ⟨⟨by decide +kernel, by decide +kernel, by decide +kernel⟩, rfl, (ce_t (i := 1204) (by decide +kernel)), (ce_t (i := 9) (by decide +kernel)), (ce_t (i := 1203) (by decide +kernel))⟩
abbrev mX8_goCork : ce_Y := (yX8_goCork, cX8_goCork, 3, (some .int), [])
theorem hX8_goCork : ce_MS mX8_goCork 3 := ⟨⟨by decide +kernel, by decide +kernel, by decide +kernel⟩, rfl, (ce_t (i := 1211) (by decide +kernel)), (ce_t (i := 9) (by decide +kernel)), (ce_t (i := 1210) (by decide +kernel))⟩
abbrev mX8_canMove : ce_Y := (yX8_canMove, cX8_canMove, 5, (some .boolean), [])
theorem hX8_canMove : ce_MS mX8_canMove 4 := ⟨⟨by decide +kernel, by decide +kernel, by decide +kernel⟩, rfl, (ce_t (i := 1218) (by decide +kernel)), (ce_t (i := 9) (by decide +kernel)), (ce_t (i := 1217) (by decide +kernel))⟩
abbrev mX8_goMove : ce_Y := (yX8_goMove, cX8_goMove, 4, none, [])
theorem hX8_goMove : ce_MS mX8_goMove 4 := ⟨⟨by decide +kernel, by decide +kernel, by decide +kernel⟩, rfl, (ce_t (i := 1221) (by decide +kernel)), (ce_t (i := 9) (by decide +kernel)), (ce_t (i := 1220) (by decide +kernel))⟩
abbrev mX8_append : ce_Y := (yX8_append, cX8_append, 2, (some .int), [])
theorem hX8_append : ce_MV mX8_append 1 := ⟨⟨by decide +kernel, by decide +kernel, by decide +kernel⟩, rfl, (ce_t (i := 990) (by decide +kernel)), (ce_t (i := 9) (by decide +kernel)), (ce_t (i := 988) (by decide +kernel)), (ce_t (i := 989) (by decide +kernel))⟩
abbrev mX8_clearText : ce_Y := (yX8_clearText, cX8_clearText, 2, (some .int), [])
theorem hX8_clearText : ce_MV mX8_clearText 0 := ⟨⟨by decide +kernel, by decide +kernel, by decide +kernel⟩, rfl, (ce_t (i := 1002) (by decide +kernel)), (ce_t (i := 9) (by decide +kernel)), (ce_t (i := 1000) (by decide +kernel)), (ce_t (i := 1001) (by decide +kernel))⟩
end
section
abbrev mX8_isNext : ce_Y := (yX8_isNext, cX8_isNext, 2, (some .boolean), [])
theorem hX8_isNext : ce_MV mX8_isNext 1 := ⟨⟨by decide +kernel, by decide +kernel, by decide +kernel⟩, rfl, (ce_t (i := 1014) (by decide +kernel)), (ce_t (i := 9) (by decide +kernel)), (ce_t (i := 1013) (by decide +kernel)), (ce_s (i := 22) (by decide +kernel))⟩
abbrev mX8_accept : ce_Y := (yX8_accept, cX8_accept, 2, none, [])
theorem hX8_accept : ce_MV mX8_accept 1 := ⟨⟨by decide +kernel, by decide +kernel, by decide +kernel⟩, rfl, (ce_t (i := 1018) (by decide +kernel)), (ce_t (i := 9) (by decide +kernel)), (ce_t (i := 1017) (by decide +kernel)), (ce_s (i := 23) (by decide +kernel))⟩
abbrev mX8_digit : ce_Y := (yX8_digit, cX8_digit, 4, (some .int), [])
theorem hX8_digit : ce_MV mX8_digit 2 := ⟨⟨by decide +kernel, by decide +kernel, by decide +kernel⟩, rfl, (ce_t (i := 1026) (by decide +kernel)), (ce_t (i := 9) (by decide +kernel)), (ce_t (i := 1025) (by decide +kernel)), (ce_s (i := 25) (by decide +kernel))⟩
abbrev mX8_two : ce_Y := (yX8_two, cX8_two, 6, (some .int), [])
theorem hX8_two : ce_MV mX8_two 2 := ⟨⟨by decide +kernel, by decide +kernel, by decide +kernel⟩, rfl, (ce_t (i := 1032) (by decide +kernel)), (ce_t (i := 9) (by decide +kernel)), (ce_t (i := 1031) (by decide +kernel)), (ce_s (i := 26) (by decide +kernel))⟩
abbrev mX8_addMemberTo : ce_Y := (yX8_addMemberTo, cX8_addMemberTo, 2, none, [])
theorem hX8_addMemberTo : ce_MS mX8_addMemberTo 2 := ⟨⟨by decide +kernel, by decide +kernel, by decide +kernel⟩, rfl, (ce_t (i := 1035) (by decide +kernel)), (ce_t (i := 9) (by decide +kernel)), (ce_t (i := 1034) (by decide +kernel))⟩
abbrev mX8_addWineTo : ce_Y := (yX8_addWineTo, cX8_addWineTo, 4, none, [])
theorem hX8_addWineTo : ce_MS mX8_addWineTo 3 := ⟨⟨by decide +kernel, by decide +kernel, by decide +kernel⟩, rfl, (ce_t (i := 1041) (by decide +kernel)), (ce_t (i := 9) (by decide +kernel)), (ce_t (i := 1040) (by decide +kernel))⟩
abbrev mX8_addBinTo : ce_Y := (yX8_addBinTo, cX8_addBinTo, 2, none, [])
theorem hX8_addBinTo : ce_MS mX8_addBinTo 2 := ⟨⟨by decide +kernel, by decide +kernel, by decide +kernel⟩, rfl, (ce_t (i := 1047) (by decide +kernel)), (ce_t (i := 9) (by decide +kernel)), (ce_t (i := 1046) (by decide +kernel))⟩
abbrev mX8_readPart : ce_Y := (yX8_readPart, cX8_readPart, 4, none, [])
theorem hX8_readPart : ce_MV mX8_readPart 0 := ⟨⟨by decide +kernel, by decide +kernel, by decide +kernel⟩, rfl, (ce_t (i := 1022) (by decide +kernel)), (ce_t (i := 9) (by decide +kernel)), (ce_t (i := 1021) (by decide +kernel)), (ce_s (i := 24) (by decide +kernel))⟩
abbrev mX8_readText : ce_Y := (yX8_readText, cX8_readText, 2, (some .int), [])
theorem hX8_readText : ce_MV mX8_readText 0 := ⟨⟨by decide +kernel, by decide +kernel, by decide +kernel⟩, rfl, (ce_t (i := 1010) (by decide +kernel)), (ce_t (i := 9) (by decide +kernel)), (ce_t (i := 1009) (by decide +kernel)), (ce_s (i := 21) (by decide +kernel))⟩
abbrev mX8_errorPosition : ce_Y := (yX8_errorPosition, cX8_errorPosition, 1, (some .int), [])
theorem hX8_errorPosition : ce_MV mX8_errorPosition 0 := ⟨⟨by decide +kernel, by decide +kernel, by decide +kernel⟩, rfl, (ce_t (i := 1006) (by decide +kernel)), (ce_t (i := 9) (by decide +kernel)), (ce_t (i := 1004) (by decide +kernel)), (ce_t (i := 1005) (by decide +kernel))⟩
abbrev mX8_load : ce_Y := (yX8_load, cX8_load, 1, (some .int), [])
theorem hX8_load : ce_MV mX8_load 0 := ⟨⟨by decide +kernel, by decide +kernel, by decide +kernel⟩, rfl, (ce_t (i := 1057) (by decide +kernel)), (ce_t (i := 9) (by decide +kernel)), (ce_t (i := 1055) (by decide +kernel)), (ce_t (i := 1056) (by decide +kernel))⟩
abbrev mX8_owedByAll : ce_Y := (yX8_owedByAll, cX8_owedByAll, 3, (some .int), [])
theorem hX8_owedByAll : ce_MS mX8_owedByAll 1 := ⟨⟨by decide +kernel, by decide +kernel, by decide +kernel⟩, rfl, (ce_t (i := 1073) (by decide +kernel)), (ce_t (i := 9) (by decide +kernel)), (ce_t (i := 1072) (by decide +kernel))⟩
abbrev mX8_allRoom : ce_Y := (yX8_allRoom, cX8_allRoom, 3, (some .int), [])
theorem hX8_allRoom : ce_MS mX8_allRoom 1 := ⟨⟨by decide +kernel, by decide +kernel, by decide +kernel⟩, rfl, (ce_t (i := 1079) (by decide +kernel)), (ce_t (i := 9) (by decide +kernel)), (ce_t (i := 1078) (by decide +kernel))⟩
abbrev mX8_about : ce_Y := (yX8_about, cX8_about, 2, (some .int), [])
theorem hX8_about : ce_MV mX8_about 1 := ⟨⟨by decide +kernel, by decide +kernel, by decide +kernel⟩, rfl, (ce_t (i := 1064) (by decide +kernel)), (ce_t (i := 9) (by decide +kernel)), (ce_t (i := 1062) (by decide +kernel)), (ce_t (i := 1063) (by decide +kernel))⟩
abbrev mX8_isMember : ce_Y := (yX8_isMember, cX8_isMember, 2, (some .boolean), [])
theorem hX8_isMember : ce_MV mX8_isMember 1 := ⟨⟨by decide +kernel, by decide +kernel, by decide +kernel⟩, rfl, (ce_t (i := 1090) (by decide +kernel)), (ce_t (i := 9) (by decide +kernel)), (ce_t (i := 1089) (by decide +kernel)), (ce_s (i := 27) (by decide +kernel))⟩
abbrev mX8_isWine : ce_Y := (yX8_isWine, cX8_isWine, 2, (some .boolean), [])
theorem hX8_isWine : ce_MV mX8_isWine 1 := ⟨⟨by decide +kernel, by decide +kernel, by decide +kernel⟩, rfl, (ce_t (i := 1102) (by decide +kernel)), (ce_t (i := 9) (by decide +kernel)), (ce_t (i := 1101) (by decide +kernel)), (ce_s (i := 28) (by decide +kernel))⟩
abbrev mX8_isBin : ce_Y := (yX8_isBin, cX8_isBin, 2, (some .boolean), [])
theorem hX8_isBin : ce_MV mX8_isBin 1 := ⟨⟨by decide +kernel, by decide +kernel, by decide +kernel⟩, rfl, (ce_t (i := 1114) (by decide +kernel)), (ce_t (i := 9) (by decide +kernel)), (ce_t (i := 1113) (by decide +kernel)), (ce_s (i := 29) (by decide +kernel))⟩
abbrev mX8_member : ce_Y := (yX8_member, cX8_member, 3, (some .int), [])
theorem hX8_member : ce_MV mX8_member 2 := ⟨⟨by decide +kernel, by decide +kernel, by decide +kernel⟩, rfl, (ce_t (i := 1086) (by decide +kernel)), (ce_t (i := 9) (by decide +kernel)), (ce_t (i := 1084) (by decide +kernel)), (ce_t (i := 1085) (by decide +kernel))⟩
abbrev mX8_wine : ce_Y := (yX8_wine, cX8_wine, 3, (some .int), [])
theorem hX8_wine : ce_MV mX8_wine 2 := ⟨⟨by decide +kernel, by decide +kernel, by decide +kernel⟩, rfl, (ce_t (i := 1098) (by decide +kernel)), (ce_t (i := 9) (by decide +kernel)), (ce_t (i := 1096) (by decide +kernel)), (ce_t (i := 1097) (by decide +kernel))⟩
abbrev mX8_bin : ce_Y := (yX8_bin, cX8_bin, 3, (some .int), [])
theorem hX8_bin : ce_MV mX8_bin 2 := ⟨⟨by decide +kernel, by decide +kernel, by decide +kernel⟩, rfl, (ce_t (i := 1110) (by decide +kernel)), (ce_t (i := 9) (by decide +kernel)), (ce_t (i := 1108) (by decide +kernel)), (ce_t (i := 1109) (by decide +kernel))⟩
abbrev mX8_has : ce_Y := (yX8_has, cX8_has, 4, (some .int), [])
theorem hX8_has : ce_MV mX8_has 3 := ⟨⟨by decide +kernel, by decide +kernel, by decide +kernel⟩, rfl, (ce_t (i := 1119) (by decide +kernel)), (ce_t (i := 9) (by decide +kernel)), (ce_t (i := 1117) (by decide +kernel)), (ce_t (i := 1118) (by decide +kernel))⟩
abbrev mX8_addMember : ce_Y := (yX8_addMember, cX8_addMember, 2, (some .int), [])
theorem hX8_addMember : ce_MV mX8_addMember 1 := ⟨⟨by decide +kernel, by decide +kernel, by decide +kernel⟩, rfl, (ce_t (i := 1123) (by decide +kernel)), (ce_t (i := 9) (by decide +kernel)), (ce_t (i := 1121) (by decide +kernel)), (ce_t (i := 1122) (by decide +kernel))⟩
abbrev mX8_addWine : ce_Y := (yX8_addWine, cX8_addWine, 3, (some .int), [])
theorem hX8_addWine : ce_MV mX8_addWine 2 := ⟨⟨by decide +kernel, by decide +kernel, by decide +kernel⟩, rfl, (ce_t (i := 1132) (by decide +kernel)), (ce_t (i := 9) (by decide +kernel)), (ce_t (i := 1130) (by decide +kernel)), (ce_t (i := 1131) (by decide +kernel))⟩
abbrev mX8_addBin : ce_Y := (yX8_addBin, cX8_addBin, 2, (some .int), [])
theorem hX8_addBin : ce_MV mX8_addBin 1 := ⟨⟨by decide +kernel, by decide +kernel, by decide +kernel⟩, rfl, (ce_t (i := 1138) (by decide +kernel)), (ce_t (i := 9) (by decide +kernel)), (ce_t (i := 1136) (by decide +kernel)), (ce_t (i := 1137) (by decide +kernel))⟩
abbrev mX8_order : ce_Y := (yX8_order, cX8_order, 6, (some .int), [])
theorem hX8_order : ce_MV mX8_order 3 := ⟨⟨by decide +kernel, by decide +kernel, by decide +kernel⟩, rfl, (ce_t (i := 1143) (by decide +kernel)), (ce_t (i := 9) (by decide +kernel)), (ce_t (i := 1141) (by decide +kernel)), (ce_t (i := 1142) (by decide +kernel))⟩
abbrev mX8_allocate : ce_Y := (yX8_allocate, cX8_allocate, 2, (some .int), [])
theorem hX8_allocate : ce_MV mX8_allocate 1 := ⟨⟨by decide +kernel, by decide +kernel, by decide +kernel⟩, rfl, (ce_t (i := 1147) (by decide +kernel)), (ce_t (i := 9) (by decide +kernel)), (ce_t (i := 1145) (by decide +kernel)), (ce_t (i := 1146) (by decide +kernel))⟩
abbrev mX8_deliver : ce_Y := (yX8_deliver, cX8_deliver, 2, (some .int), [])
theorem hX8_deliver : ce_MV mX8_deliver 1 := ⟨⟨by decide +kernel, by decide +kernel, by decide +kernel⟩, rfl, (ce_t (i := 1166) (by decide +kernel)), (ce_t (i := 9) (by decide +kernel)), (ce_t (i := 1164) (by decide +kernel)), (ce_t (i := 1165) (by decide +kernel))⟩
abbrev mX8_drink : ce_Y := (yX8_drink, cX8_drink, 5, (some .int), [])
theorem hX8_drink : ce_MV mX8_drink 3 := ⟨⟨by decide +kernel, by decide +kernel, by decide +kernel⟩, rfl, (ce_t (i := 1191) (by decide +kernel)), (ce_t (i := 9) (by decide +kernel)), (ce_t (i := 1189) (by decide +kernel)), (ce_t (i := 1190) (by decide +kernel))⟩
abbrev mX8_give : ce_Y := (yX8_give, cX8_give, 6, (some .int), [])
theorem hX8_give : ce_MV mX8_give 4 := ⟨⟨by decide +kernel, by decide +kernel, by decide +kernel⟩, rfl, (ce_t (i := 1201) (by decide +kernel)), (ce_t (i := 9) (by decide +kernel)), (ce_t (i := 1199) (by decide +kernel)), (ce_t (i := 1200) (by decide +kernel))⟩
abbrev mX8_cork : ce_Y := (yX8_cork, cX8_cork, 4, (some .int), [])
theorem hX8_cork : ce_MV mX8_cork 2 := ⟨⟨by decide +kernel, by decide +kernel, by decide +kernel⟩, rfl, (ce_t (i := 1208) (by decide +kernel)), (ce_t (i := 9) (by decide +kernel)), (ce_t (i := 1206) (by decide +kernel)), (ce_t (i := 1207) (by decide +kernel))⟩
abbrev mX8_move : ce_Y := (yX8_move, cX8_move, 5, (some .int), [])
theorem hX8_move : ce_MV mX8_move 3 := ⟨⟨by decide +kernel, by decide +kernel, by decide +kernel⟩, rfl, (ce_t (i := 1215) (by decide +kernel)), (ce_t (i := 9) (by decide +kernel)), (ce_t (i := 1213) (by decide +kernel)), (ce_t (i := 1214) (by decide +kernel))⟩
abbrev mX8_pay : ce_Y := (yX8_pay, cX8_pay, 3, (some .int), [])
theorem hX8_pay : ce_MV mX8_pay 1 := ⟨⟨by decide +kernel, by decide +kernel, by decide +kernel⟩, rfl, (ce_t (i := 1225) (by decide +kernel)), (ce_t (i := 9) (by decide +kernel)), (ce_t (i := 1223) (by decide +kernel)), (ce_t (i := 1224) (by decide +kernel))⟩
abbrev mX8_undo : ce_Y := (yX8_undo, cX8_undo, 1, (some .int), [])
theorem hX8_undo : ce_MV mX8_undo 0 := ⟨⟨by decide +kernel, by decide +kernel, by decide +kernel⟩, rfl, (ce_t (i := 1229) (by decide +kernel)), (ce_t (i := 9) (by decide +kernel)), (ce_t (i := 1227) (by decide +kernel)), (ce_t (i := 1228) (by decide +kernel))⟩
abbrev mX8_wouldGet : ce_Y := (yX8_wouldGet, cX8_wouldGet, 3, (some .int), [])
theorem hX8_wouldGet : ce_MV mX8_wouldGet 2 := ⟨⟨by decide +kernel, by decide +kernel, by decide +kernel⟩, rfl, (ce_t (i := 1233) (by decide +kernel)), (ce_t (i := 9) (by decide +kernel)), (ce_t (i := 1231) (by decide +kernel)), (ce_t (i := 1232) (by decide +kernel))⟩
abbrev mX8_roomFor : ce_Y := (yX8_roomFor, cX8_roomFor, 2, (some .int), [])
theorem hX8_roomFor : ce_MV mX8_roomFor 1 := ⟨⟨by decide +kernel, by decide +kernel, by decide +kernel⟩, rfl, (ce_t (i := 1237) (by decide +kernel)), (ce_t (i := 9) (by decide +kernel)), (ce_t (i := 1235) (by decide +kernel)), (ce_t (i := 1236) (by decide +kernel))⟩
abbrev mX8_sizes : ce_Y := (yX8_sizes, cX8_sizes, 4, (some .int), [])
theorem hX8_sizes : ce_MS mX8_sizes 2 := ⟨⟨by decide +kernel, by decide +kernel, by decide +kernel⟩, rfl, (ce_t (i := 1248) (by decide +kernel)), (ce_t (i := 9) (by decide +kernel)), (ce_t (i := 1247) (by decide +kernel))⟩
abbrev mX8_bits : ce_Y := (yX8_bits, cX8_bits, 3, (some .int), [])
theorem hX8_bits : ce_MS mX8_bits 1 := ⟨⟨by decide +kernel, by decide +kernel, by decide +kernel⟩, rfl, (ce_t (i := 1251) (by decide +kernel)), (ce_t (i := 9) (by decide +kernel)), (ce_t (i := 1250) (by decide +kernel))⟩
abbrev mX8_layWine : ce_Y := (yX8_layWine, cX8_layWine, 6, none, [])
theorem hX8_layWine : ce_MV mX8_layWine 1 := ⟨⟨by decide +kernel, by decide +kernel, by decide +kernel⟩, rfl, (ce_t (i := 1245) (by decide +kernel)), (ce_t (i := 9) (by decide +kernel)), (ce_t (i := 1244) (by decide +kernel)), (ce_s (i := 34) (by decide +kernel))⟩
abbrev mX8_fewestBins : ce_Y := (yX8_fewestBins, cX8_fewestBins, 3, (some .int), [])
theorem hX8_fewestBins : ce_MV mX8_fewestBins 0 := ⟨⟨by decide +kernel, by decide +kernel, by decide +kernel⟩, rfl, (ce_t (i := 1241) (by decide +kernel)), (ce_t (i := 9) (by decide +kernel)), (ce_t (i := 1239) (by decide +kernel)), (ce_t (i := 1240) (by decide +kernel))⟩
abbrev mX8_shortest : ce_Y := (yX8_shortest, cX8_shortest, 6, (some .int), [])
theorem hX8_shortest : ce_MV mX8_shortest 1 := ⟨⟨by decide +kernel, by decide +kernel, by decide +kernel⟩, rfl, (ce_t (i := 1255) (by decide +kernel)), (ce_t (i := 9) (by decide +kernel)), (ce_t (i := 1253) (by decide +kernel)), (ce_t (i := 1254) (by decide +kernel))⟩
abbrev mX8_owns : ce_Y := (yX8_owns, cX8_owns, 4, (some .boolean), [])
theorem hX8_owns : ce_MS mX8_owns 4 := ⟨⟨by decide +kernel, by decide +kernel, by decide +kernel⟩, rfl, (ce_t (i := 1275) (by decide +kernel)), (ce_t (i := 9) (by decide +kernel)), (ce_t (i := 1274) (by decide +kernel))⟩
abbrev mX8_does : ce_Y := (yX8_does, cX8_does, 9, (some .boolean), [])
theorem hX8_does : ce_MV mX8_does 1 := ⟨⟨by decide +kernel, by decide +kernel, by decide +kernel⟩, rfl, (ce_t (i := 1272) (by decide +kernel)), (ce_t (i := 9) (by decide +kernel)), (ce_t (i := 1271) (by decide +kernel)), (ce_s (i := 36) (by decide +kernel))⟩
abbrev mX8_runScript : ce_Y := (yX8_runScript, cX8_runScript, 6, (some .int), [])
theorem hX8_runScript : ce_MV mX8_runScript 2 := ⟨⟨by decide +kernel, by decide +kernel, by decide +kernel⟩, rfl, (ce_t (i := 1259) (by decide +kernel)), (ce_t (i := 9) (by decide +kernel)), (ce_t (i := 1257) (by decide +kernel)), (ce_t (i := 1258) (by decide +kernel))⟩
abbrev mX8_evening : ce_Y := (yX8_evening, cX8_evening, 6, none, [])
theorem hX8_evening : ce_MV mX8_evening 1 := ⟨⟨by decide +kernel, by decide +kernel, by decide +kernel⟩, rfl, (ce_t (i := 1285) (by decide +kernel)), (ce_t (i := 9) (by decide +kernel)), (ce_t (i := 1284) (by decide +kernel)), (ce_s (i := 37) (by decide +kernel))⟩
abbrev mX8_simulate : ce_Y := (yX8_simulate, cX8_simulate, 7, (some .int), [])
theorem hX8_simulate : ce_MV mX8_simulate 2 := ⟨⟨by decide +kernel, by decide +kernel, by decide +kernel⟩, rfl, (ce_t (i := 1279) (by decide +kernel)), (ce_t (i := 9) (by decide +kernel)), (ce_t (i := 1277) (by decide +kernel)), (ce_t (i := 1278) (by decide +kernel))⟩
abbrev mX8_save : ce_Y := (yX8_save, cX8_save, 2, (some .int), [])
theorem hX8_save : ce_MV mX8_save 1 := ⟨⟨by decide +kernel, by decide +kernel, by decide +kernel⟩, rfl, (ce_t (i := 1289) (by decide +kernel)), (ce_t (i := 9) (by decide +kernel)), (ce_t (i := 1287) (by decide +kernel)), (ce_t (i := 1288) (by decide +kernel))⟩
abbrev mX8_restore : ce_Y := (yX8_restore, cX8_restore, 2, (some .int), [])
theorem hX8_restore : ce_MV mX8_restore 1 := ⟨⟨by decide +kernel, by decide +kernel, by decide +kernel⟩, rfl, (ce_t (i := 1293) (by decide +kernel)), (ce_t (i := 9) (by decide +kernel)), (ce_t (i := 1291) (by decide +kernel)), (ce_t (i := 1292) (by decide +kernel))⟩
abbrev mJ6_bitCount_0f7a4 : ce_Y := (yJ6_bitCount_0f7a4, cJ6_bitCount_0f7a4, 1, (some .int), [])
theorem hJ6_bitCount_0f7a4 : ce_MS mJ6_bitCount_0f7a4 1 := ⟨⟨by decide +kernel, by decide +kernel, by decide +kernel⟩, rfl, (ce_t (i := 334) (by decide +kernel)), (ce_t (i := 18) (by decide +kernel)), (ce_t (i := 333) (by decide +kernel))⟩
abbrev mJ9_min_7cf53 : ce_Y := (yJ9_min_7cf53, cJ9_min_7cf53, 2, (some .int), [])
theorem hJ9_min_7cf53 : ce_MS mJ9_min_7cf53 2 := ⟨⟨by decide +kernel, by decide +kernel, by decide +kernel⟩, rfl, (ce_t (i := 243) (by decide +kernel)), (ce_t (i := 16) (by decide +kernel)), (ce_t (i := 242) (by decide +kernel))⟩
abbrev mL_append : ce_Y := (yL_append, cL_append, 4, (some .int), [(0, 9, 12, 13), (0, 9, 15, 15)])
theorem hL_append : ce_MH mL_append 3 := ⟨⟨by decide +kernel, by decide +kernel, by decide +kernel⟩, ⟨_, _, rfl⟩, (ce_t (i := 341) (by decide +kernel)), (ce_t (i := 0) (by decide +kernel)), (ce_t (i := 340) (by decide +kernel))⟩
abbrev mL_load : ce_Y := (yL_load, cL_load, 3, (some .int), [(0, 8, 11, 15)])
theorem hL_load : ce_MH mL_load 2 := ⟨⟨by decide +kernel, by decide +kernel, by decide +kernel⟩, ⟨_, _, rfl⟩, (ce_t (i := 461) (by decide +kernel)), (ce_t (i := 0) (by decide +kernel)), (ce_t (i := 460) (by decide +kernel))⟩
abbrev mL_about : ce_Y := (yL_about, cL_about, 4, (some .int), [(0, 9, 12, 13)])
theorem hL_about : ce_MH mL_about 3 := ⟨⟨by decide +kernel, by decide +kernel, by decide +kernel⟩, ⟨_, _, rfl⟩, (ce_t (i := 474) (by decide +kernel)), (ce_t (i := 0) (by decide +kernel)), (ce_t (i := 473) (by decide +kernel))⟩
abbrev mL_member : ce_Y := (yL_member, cL_member, 5, (some .int), [(0, 10, 13, 28), (0, 10, 17, 13)])
theorem hL_member : ce_MH mL_member 4 := ⟨⟨by decide +kernel, by decide +kernel, by decide +kernel⟩, ⟨_, _, rfl⟩, (ce_t (i := 508) (by decide +kernel)), (ce_t (i := 0) (by decide +kernel)), (ce_t (i := 507) (by decide +kernel))⟩
abbrev mL_wine : ce_Y := (yL_wine, cL_wine, 5, (some .int), [(0, 10, 13, 28), (0, 10, 17, 13)])
theorem hL_wine : ce_MH mL_wine 4 := ⟨⟨by decide +kernel, by decide +kernel, by decide +kernel⟩, ⟨_, _, rfl⟩, (ce_t (i := 528) (by decide +kernel)), (ce_t (i := 0) (by decide +kernel)), (ce_t (i := 527) (by decide +kernel))⟩
abbrev mL_bin : ce_Y := (yL_bin, cL_bin, 5, (some .int), [(0, 10, 13, 28), (0, 10, 17, 13)])
theorem hL_bin : ce_MH mL_bin 4 := ⟨⟨by decide +kernel, by decide +kernel, by decide +kernel⟩, ⟨_, _, rfl⟩, (ce_t (i := 544) (by decide +kernel)), (ce_t (i := 0) (by decide +kernel)), (ce_t (i := 543) (by decide +kernel))⟩
abbrev mL_has : ce_Y := (yL_has, cL_has, 6, (some .int), [(0, 12, 15, 28), (0, 12, 19, 13)])
theorem hL_has : ce_MH mL_has 5 := ⟨⟨by decide +kernel, by decide +kernel, by decide +kernel⟩, ⟨_, _, rfl⟩, (ce_t (i := 559) (by decide +kernel)), (ce_t (i := 0) (by decide +kernel)), (ce_t (i := 558) (by decide +kernel))⟩
abbrev mL_addMember : ce_Y := (yL_addMember, cL_addMember, 4, (some .int), [(0, 9, 12, 13), (0, 9, 15, 15)])
theorem hL_addMember : ce_MH mL_addMember 3 := ⟨⟨by decide +kernel, by decide +kernel, by decide +kernel⟩, ⟨_, _, rfl⟩, (ce_t (i := 576) (by decide +kernel)), (ce_t (i := 0) (by decide +kernel)), (ce_t (i := 575) (by decide +kernel))⟩
abbrev mL_addWine : ce_Y := (yL_addWine, cL_addWine, 5, (some .int), [(0, 10, 13, 13), (0, 10, 17, 15)])
theorem hL_addWine : ce_MH mL_addWine 4 := ⟨⟨by decide +kernel, by decide +kernel, by decide +kernel⟩, ⟨_, _, rfl⟩, (ce_t (i := 597) (by decide +kernel)), (ce_t (i := 0) (by decide +kernel)), (ce_t (i := 596) (by decide +kernel))⟩
abbrev mL_addBin : ce_Y := (yL_addBin, cL_addBin, 4, (some .int), [(0, 9, 12, 13), (0, 9, 15, 15)])
theorem hL_addBin : ce_MH mL_addBin 3 := ⟨⟨by decide +kernel, by decide +kernel, by decide +kernel⟩, ⟨_, _, rfl⟩, (ce_t (i := 609) (by decide +kernel)), (ce_t (i := 0) (by decide +kernel)), (ce_t (i := 608) (by decide +kernel))⟩
abbrev mL_order : ce_Y := (yL_order, cL_order, 6, (some .int), [(0, 12, 15, 28), (0, 12, 19, 13), (0, 12, 23, 15)])
theorem hL_order : ce_MH mL_order 5 := ⟨⟨by decide +kernel, by decide +kernel, by decide +kernel⟩, ⟨_, _, rfl⟩, (ce_t (i := 621) (by decide +kernel)), (ce_t (i := 0) (by decide +kernel)), (ce_t (i := 620) (by decide +kernel))⟩
abbrev mL_allocate : ce_Y := (yL_allocate, cL_allocate, 4, (some .int), [(0, 9, 12, 28), (0, 9, 15, 15)])
theorem hL_allocate : ce_MH mL_allocate 3 := ⟨⟨by decide +kernel, by decide +kernel, by decide +kernel⟩, ⟨_, _, rfl⟩, (ce_t (i := 634) (by decide +kernel)), (ce_t (i := 0) (by decide +kernel)), (ce_t (i := 633) (by decide +kernel))⟩
abbrev mL_deliver : ce_Y := (yL_deliver, cL_deliver, 4, (some .int), [(0, 9, 12, 28), (0, 9, 15, 15)])
theorem hL_deliver : ce_MH mL_deliver 3 := ⟨⟨by decide +kernel, by decide +kernel, by decide +kernel⟩, ⟨_, _, rfl⟩, (ce_t (i := 667) (by decide +kernel)), (ce_t (i := 0) (by decide +kernel)), (ce_t (i := 666) (by decide +kernel))⟩
abbrev mL_drink : ce_Y := (yL_drink, cL_drink, 6, (some .int), [(0, 12, 15, 28), (0, 12, 19, 13), (0, 12, 23, 15)])
theorem hL_drink : ce_MH mL_drink 5 := ⟨⟨by decide +kernel, by decide +kernel, by decide +kernel⟩, ⟨_, _, rfl⟩, (ce_t (i := 710) (by decide +kernel)), (ce_t (i := 0) (by decide +kernel)), (ce_t (i := 709) (by decide +kernel))⟩
abbrev mL_give : ce_Y := (yL_give, cL_give, 7, (some .int), [(0, 14, 17, 28), (0, 14, 21, 13), (0, 14, 25, 15)])
theorem hL_give : ce_MH mL_give 6 := ⟨⟨by decide +kernel, by decide +kernel, by decide +kernel⟩, ⟨_, _, rfl⟩, (ce_t (i := 737) (by decide +kernel)), (ce_t (i := 0) (by decide +kernel)), (ce_t (i := 736) (by decide +kernel))⟩
abbrev mL_cork : ce_Y := (yL_cork, cL_cork, 5, (some .int), [(0, 10, 13, 28), (0, 10, 17, 15)])
theorem hL_cork : ce_MH mL_cork 4 := ⟨⟨by decide +kernel, by decide +kernel, by decide +kernel⟩, ⟨_, _, rfl⟩, (ce_t (i := 752) (by decide +kernel)), (ce_t (i := 0) (by decide +kernel)), (ce_t (i := 751) (by decide +kernel))⟩
abbrev mL_move : ce_Y := (yL_move, cL_move, 6, (some .int), [(0, 12, 15, 28), (0, 12, 19, 13), (0, 12, 23, 15)])
theorem hL_move : ce_MH mL_move 5 := ⟨⟨by decide +kernel, by decide +kernel, by decide +kernel⟩, ⟨_, _, rfl⟩, (ce_t (i := 767) (by decide +kernel)), (ce_t (i := 0) (by decide +kernel)), (ce_t (i := 766) (by decide +kernel))⟩
abbrev mL_pay : ce_Y := (yL_pay, cL_pay, 4, (some .int), [(0, 9, 12, 28)])
theorem hL_pay : ce_MH mL_pay 3 := ⟨⟨by decide +kernel, by decide +kernel, by decide +kernel⟩, ⟨_, _, rfl⟩, (ce_t (i := 783) (by decide +kernel)), (ce_t (i := 0) (by decide +kernel)), (ce_t (i := 782) (by decide +kernel))⟩
abbrev mL_undo : ce_Y := (yL_undo, cL_undo, 3, (some .int), [(0, 8, 11, 15)])
theorem hL_undo : ce_MH mL_undo 2 := ⟨⟨by decide +kernel, by decide +kernel, by decide +kernel⟩, ⟨_, _, rfl⟩, (ce_t (i := 794) (by decide +kernel)), (ce_t (i := 0) (by decide +kernel)), (ce_t (i := 793) (by decide +kernel))⟩
abbrev mL_wouldGet : ce_Y := (yL_wouldGet, cL_wouldGet, 5, (some .int), [(0, 10, 13, 28)])
theorem hL_wouldGet : ce_MH mL_wouldGet 4 := ⟨⟨by decide +kernel, by decide +kernel, by decide +kernel⟩, ⟨_, _, rfl⟩, (ce_t (i := 805) (by decide +kernel)), (ce_t (i := 0) (by decide +kernel)), (ce_t (i := 804) (by decide +kernel))⟩
abbrev mL_roomFor : ce_Y := (yL_roomFor, cL_roomFor, 4, (some .int), [(0, 9, 12, 28)])
theorem hL_roomFor : ce_MH mL_roomFor 3 := ⟨⟨by decide +kernel, by decide +kernel, by decide +kernel⟩, ⟨_, _, rfl⟩, (ce_t (i := 824) (by decide +kernel)), (ce_t (i := 0) (by decide +kernel)), (ce_t (i := 823) (by decide +kernel))⟩
abbrev mL_shortest : ce_Y := (yL_shortest, cL_shortest, 4, (some .int), [(0, 9, 12, 28)])
theorem hL_shortest : ce_MH mL_shortest 3 := ⟨⟨by decide +kernel, by decide +kernel, by decide +kernel⟩, ⟨_, _, rfl⟩, (ce_t (i := 832) (by decide +kernel)), (ce_t (i := 0) (by decide +kernel)), (ce_t (i := 831) (by decide +kernel))⟩
abbrev mL_runScript : ce_Y := (yL_runScript, cL_runScript, 6, (some .int), [(0, 11, 14, 13)])
theorem hL_runScript : ce_MH mL_runScript 4 := ⟨⟨by decide +kernel, by decide +kernel, by decide +kernel⟩, ⟨_, _, rfl⟩, (ce_t (i := 839) (by decide +kernel)), (ce_t (i := 0) (by decide +kernel)), (ce_t (i := 838) (by decide +kernel))⟩
abbrev mL_simulate : ce_Y := (yL_simulate, cL_simulate, 6, (some .int), [(0, 11, 14, 13)])
theorem hL_simulate : ce_MH mL_simulate 4 := ⟨⟨by decide +kernel, by decide +kernel, by decide +kernel⟩, ⟨_, _, rfl⟩, (ce_t (i := 897) (by decide +kernel)), (ce_t (i := 0) (by decide +kernel)), (ce_t (i := 896) (by decide +kernel))⟩
abbrev mL_save : ce_Y := (yL_save, cL_save, 4, (some .int), [(0, 9, 12, 28)])
theorem hL_save : ce_MH mL_save 3 := ⟨⟨by decide +kernel, by decide +kernel, by decide +kernel⟩, ⟨_, _, rfl⟩, (ce_t (i := 912) (by decide +kernel)), (ce_t (i := 0) (by decide +kernel)), (ce_t (i := 911) (by decide +kernel))⟩
abbrev mL_restore : ce_Y := (yL_restore, cL_restore, 4, (some .int), [(0, 9, 12, 28), (0, 9, 15, 15)])
theorem hL_restore : ce_MH mL_restore 3 := ⟨⟨by decide +kernel, by decide +kernel, by decide +kernel⟩, ⟨_, _, rfl⟩, (ce_t (i := 922) (by decide +kernel)), (ce_t (i := 0) (by decide +kernel)), (ce_t (i := 921) (by decide +kernel))⟩
theorem kRL_100 : Cond.methodLink RL 100 yX7_init ∈ lw_tbl := ce_t (i := 21) (by decide +kernel)
theorem kRX7_1 : Cond.methodLink RX7 1 Lib.objectInit ∈ lw_tbl := ce_t (i := 24) (by decide +kernel)
theorem kRX7_9 : Cond.methodLinkNest RX7 9 yX0_init "CellarClub" ∈ lw_tbl := ce_t (i := 29) (by decide +kernel)
theorem kRX0_3 : Cond.methodLink RX0 3 Lib.objectInit ∈ lw_tbl := ce_t (i := 32) (by decide +kernel)
theorem kRX0_35 : Cond.methodLinkNest RX0 35 yX5_init "CellarClub" ∈ lw_tbl := ce_t (i := 35) (by decide +kernel)
theorem kRX5_3 : Cond.methodLink RX5 3 Lib.objectInit ∈ lw_tbl := ce_t (i := 38) (by decide +kernel)
theorem kRX0_51 : Cond.methodLinkNest RX0 51 yX3_init "CellarClub" ∈ lw_tbl := ce_t (i := 46) (by decide +kernel)
theorem kRX3_3 : Cond.methodLink RX3 3 Lib.objectInit ∈ lw_tbl := ce_t (i := 49) (by decide +kernel)
theorem kRX7_18 : Cond.methodLinkNest RX7 18 yX6_init "CellarClub" ∈ lw_tbl := ce_t (i := 128) (by decide +kernel)
theorem kRX6_3 : Cond.methodLink RX6 3 Lib.objectInit ∈ lw_tbl := ce_t (i := 131) (by decide +kernel)
theorem kRX6_17 : Cond.methodLinkNest RX6 17 yX0_init "CellarClub" ∈ lw_tbl := ce_t (i := 133) (by decide +kernel)
theorem kRX7_25 : Cond.methodLink RX7 25 yX1_init ∈ lw_tbl := ce_t (i := 154) (by decide +kernel)
theorem kRX1_3 : Cond.methodLink RX1 3 Lib.objectInit ∈ lw_tbl := ce_t (i := 157) (by decide +kernel)
theorem kRX1_17 : Cond.methodLinkNest RX1 17 yX0_init "CellarClub" ∈ lw_tbl := ce_t (i := 160) (by decide +kernel)
theorem kRX7_32 : Cond.methodLinkNest RX7 32 yX4_init "CellarClub" ∈ lw_tbl := ce_t (i := 171) (by decide +kernel)
theorem kRX4_3 : Cond.methodLink RX4 3 Lib.objectInit ∈ lw_tbl := ce_t (i := 174) (by decide +kernel)
theorem kRX4_11 : Cond.methodLinkNest RX4 11 yX0_init "CellarClub" ∈ lw_tbl := ce_t (i := 176) (by decide +kernel)
theorem kRX7_39 : Cond.methodLinkNest RX7 39 yX2_init "CellarClub" ∈ lw_tbl := ce_t (i := 184) (by decide +kernel)
theorem kRX2_3 : Cond.methodLink RX2 3 Lib.objectInit ∈ lw_tbl := ce_t (i := 187) (by decide +kernel)
theorem kRL_113 : Cond.methodLink RL 113 yX7_clearText ∈ lw_tbl := ce_t (i := 218) (by decide +kernel)
theorem kRX7_64 : Cond.methodLink RX7 64 yX6_wipe ∈ lw_tbl := ce_t (i := 222) (by decide +kernel)
theorem kRL_117 : Cond.methodLink RL 117 yX7_errorPosition ∈ lw_tbl := ce_t (i := 226) (by decide +kernel)
theorem kRX7_68 : Cond.methodLink RX7 68 yX6_read ∈ lw_tbl := ce_t (i := 230) (by decide +kernel)
theorem kRX6_29 : Cond.methodLink RX6 29 yX0_copyFrom ∈ lw_tbl := ce_t (i := 234) (by decide +kernel)
theorem kRX0_135 : Cond.methodLinkNest RX0 135 yX7_copyRow "CellarClub" ∈ lw_tbl := ce_t (i := 238) (by decide +kernel)
theorem kRX7_283 : Cond.methodLink RX7 283 yJ9_min_7cf53 ∈ lw_tbl := ce_t (i := 241) (by decide +kernel)
theorem kRX7_288 : Cond.methodLink RX7 288 arraycopyName ∈ lw_tbl := ce_t (i := 244) (by decide +kernel)
theorem kRX0_139 : Cond.methodLink RX0 139 yX5_copyFrom ∈ lw_tbl := ce_t (i := 247) (by decide +kernel)
theorem kRX5_23 : Cond.methodLinkNest RX5 23 yX7_copyRow "CellarClub" ∈ lw_tbl := ce_t (i := 251) (by decide +kernel)
theorem kRX0_143 : Cond.methodLink RX0 143 yX3_copyFrom ∈ lw_tbl := ce_t (i := 252) (by decide +kernel)
theorem kRX3_65 : Cond.methodLinkNest RX3 65 yX7_copyRow "CellarClub" ∈ lw_tbl := ce_t (i := 256) (by decide +kernel)
theorem kRX6_36 : Cond.methodLink RX6 36 yX6_readPart ∈ lw_tbl := ce_t (i := 257) (by decide +kernel)
theorem kRX6_41 : Cond.methodLink RX6 41 yX6_readMember ∈ lw_tbl := ce_t (i := 261) (by decide +kernel)
theorem kRX6_56 : Cond.methodLink RX6 56 yX6_readNumber ∈ lw_tbl := ce_t (i := 265) (by decide +kernel)
theorem kRX6_60 : Cond.methodLink RX6 60 yX0_enrol ∈ lw_tbl := ce_t (i := 270) (by decide +kernel)
theorem kRX6_44 : Cond.methodLink RX6 44 yX6_readWine ∈ lw_tbl := ce_t (i := 274) (by decide +kernel)
theorem kRX6_67 : Cond.methodLink RX6 67 yX0_offer ∈ lw_tbl := ce_t (i := 278) (by decide +kernel)
theorem kRX6_47 : Cond.methodLink RX6 47 yX6_readBin ∈ lw_tbl := ce_t (i := 282) (by decide +kernel)
theorem kRX6_80 : Cond.methodLink RX6 80 yX3_install ∈ lw_tbl := ce_t (i := 286) (by decide +kernel)
theorem kRX6_50 : Cond.methodLink RX6 50 yX6_readOrder ∈ lw_tbl := ce_t (i := 291) (by decide +kernel)
theorem kRX6_83 : Cond.methodLink RX6 83 yX0_changeOrder ∈ lw_tbl := ce_t (i := 295) (by decide +kernel)
theorem kRX0_94 : Cond.methodLink RX0 94 yX5_of ∈ lw_tbl := ce_t (i := 299) (by decide +kernel)
theorem kRX0_102 : Cond.methodLink RX0 102 yX5_put ∈ lw_tbl := ce_t (i := 303) (by decide +kernel)
theorem kRL_185 : Cond.methodLink RL 185 yX7_fewestBins ∈ lw_tbl := ce_t (i := 307) (by decide +kernel)
theorem kRX7_225 : Cond.methodLink RX7 225 yX2_fewest ∈ lw_tbl := ce_t (i := 311) (by decide +kernel)
theorem kRX2_31 : Cond.methodLink RX2 31 yX2_measure ∈ lw_tbl := ce_t (i := 315) (by decide +kernel)
theorem kRX2_42 : Cond.methodLink RX2 42 yX5_ofWine ∈ lw_tbl := ce_t (i := 319) (by decide +kernel)
theorem kRX5_15 : Cond.methodLink RX5 15 yX5_of ∈ lw_tbl := ce_t (i := 323) (by decide +kernel)
theorem kRX2_48 : Cond.methodLink RX2 48 yX2_packWine ∈ lw_tbl := ce_t (i := 324) (by decide +kernel)
theorem kRX2_66 : Cond.methodLink RX2 66 yX2_canPack ∈ lw_tbl := ce_t (i := 328) (by decide +kernel)
theorem kRX2_52 : Cond.methodLink RX2 52 yJ6_bitCount_0f7a4 ∈ lw_tbl := ce_t (i := 332) (by decide +kernel)
theorem kRX2_57 : Cond.methodLink RX2 57 yJ9_min_7cf53 ∈ lw_tbl := ce_t (i := 338) (by decide +kernel)
theorem kRL_104 : Cond.methodLink RL 104 yL_append ∈ lw_tbl := ce_t (i := 339) (by decide +kernel)
theorem kRL_7 : Cond.methodLink RL 7 yX7_append ∈ lw_tbl := ce_t (i := 344) (by decide +kernel)
theorem kRX7_52 : Cond.methodLink RX7 52 yX6_addingFault ∈ lw_tbl := ce_t (i := 348) (by decide +kernel)
theorem kRX7_56 : Cond.methodLink RX7 56 yX7_check ∈ lw_tbl := ce_t (i := 352) (by decide +kernel)
theorem kRX7_60 : Cond.methodLink RX7 60 yX6_add ∈ lw_tbl := ce_t (i := 455) (by decide +kernel)
theorem kRL_121 : Cond.methodLink RL 121 yL_load ∈ lw_tbl := ce_t (i := 459) (by decide +kernel)
theorem kRL_17 : Cond.methodLink RL 17 yX7_load ∈ lw_tbl := ce_t (i := 462) (by decide +kernel)
theorem kRX7_75 : Cond.methodLink RX7 75 yX0_copyFrom ∈ lw_tbl := ce_t (i := 467) (by decide +kernel)
theorem kRX7_79 : Cond.methodLink RX7 79 yX1_forgetAll ∈ lw_tbl := ce_t (i := 468) (by decide +kernel)
theorem kRL_125 : Cond.methodLink RL 125 yL_about ∈ lw_tbl := ce_t (i := 472) (by decide +kernel)
theorem kRL_21 : Cond.methodLink RL 21 yX7_about ∈ lw_tbl := ce_t (i := 475) (by decide +kernel)
theorem kRX7_86 : Cond.methodLink RX7 86 yX7_rangeFault ∈ lw_tbl := ce_t (i := 479) (by decide +kernel)
theorem kRX7_90 : Cond.methodLink RX7 90 yX0_factOfAll ∈ lw_tbl := ce_t (i := 482) (by decide +kernel)
theorem kRX0_73 : Cond.methodLink RX0 73 yX5_ofAll ∈ lw_tbl := ce_t (i := 486) (by decide +kernel)
theorem kRX5_19 : Cond.methodLinkNest RX5 19 yX7_sumOf "CellarClub" ∈ lw_tbl := ce_t (i := 490) (by decide +kernel)
theorem kRX0_77 : Cond.methodLinkNest RX0 77 yX7_sumOf "CellarClub" ∈ lw_tbl := ce_t (i := 493) (by decide +kernel)
theorem kRX0_81 : Cond.methodLink RX0 81 yX3_emptyBins ∈ lw_tbl := ce_t (i := 494) (by decide +kernel)
theorem kRX0_84 : Cond.methodLink RX0 84 yX3_roomInAll ∈ lw_tbl := ce_t (i := 498) (by decide +kernel)
theorem kRX3_26 : Cond.methodLink RX3 26 yX3_roomIn ∈ lw_tbl := ce_t (i := 502) (by decide +kernel)
theorem kRL_128 : Cond.methodLink RL 128 yL_member ∈ lw_tbl := ce_t (i := 506) (by decide +kernel)
theorem kRL_24 : Cond.methodLink RL 24 yX7_member ∈ lw_tbl := ce_t (i := 510) (by decide +kernel)
theorem kRX7_93 : Cond.methodLink RX7 93 yX0_knowsMember ∈ lw_tbl := ce_t (i := 514) (by decide +kernel)
theorem kRX7_97 : Cond.methodLink RX7 97 yX0_factOfMember ∈ lw_tbl := ce_t (i := 518) (by decide +kernel)
theorem kRX0_87 : Cond.methodLink RX0 87 yX5_ofMember ∈ lw_tbl := ce_t (i := 522) (by decide +kernel)
theorem kRL_132 : Cond.methodLink RL 132 yL_wine ∈ lw_tbl := ce_t (i := 526) (by decide +kernel)
theorem kRL_30 : Cond.methodLink RL 30 yX7_wine ∈ lw_tbl := ce_t (i := 529) (by decide +kernel)
theorem kRX7_101 : Cond.methodLink RX7 101 yX0_knowsWine ∈ lw_tbl := ce_t (i := 533) (by decide +kernel)
theorem kRX7_104 : Cond.methodLink RX7 104 yX0_factOfWine ∈ lw_tbl := ce_t (i := 537) (by decide +kernel)
theorem kRX0_91 : Cond.methodLink RX0 91 yX5_ofWine ∈ lw_tbl := ce_t (i := 541) (by decide +kernel)
theorem kRL_135 : Cond.methodLink RL 135 yL_bin ∈ lw_tbl := ce_t (i := 542) (by decide +kernel)
theorem kRL_33 : Cond.methodLink RL 33 yX7_bin ∈ lw_tbl := ce_t (i := 545) (by decide +kernel)
theorem kRX7_111 : Cond.methodLink RX7 111 yX3_knows ∈ lw_tbl := ce_t (i := 549) (by decide +kernel)
theorem kRX7_116 : Cond.methodLink RX7 116 yX3_factOf ∈ lw_tbl := ce_t (i := 553) (by decide +kernel)
theorem kRL_138 : Cond.methodLink RL 138 yL_has ∈ lw_tbl := ce_t (i := 557) (by decide +kernel)
theorem kRL_36 : Cond.methodLink RL 36 yX7_has ∈ lw_tbl := ce_t (i := 560) (by decide +kernel)
theorem kRX7_119 : Cond.methodLink RX7 119 yX0_knowsBoth ∈ lw_tbl := ce_t (i := 564) (by decide +kernel)
theorem kRX0_63 : Cond.methodLink RX0 63 yX0_knowsMember ∈ lw_tbl := ce_t (i := 568) (by decide +kernel)
theorem kRX0_67 : Cond.methodLink RX0 67 yX0_knowsWine ∈ lw_tbl := ce_t (i := 569) (by decide +kernel)
theorem kRX7_123 : Cond.methodLink RX7 123 yX0_factOfBoth ∈ lw_tbl := ce_t (i := 570) (by decide +kernel)
theorem kRL_142 : Cond.methodLink RL 142 yL_addMember ∈ lw_tbl := ce_t (i := 574) (by decide +kernel)
theorem kRL_40 : Cond.methodLink RL 40 yX7_addMember ∈ lw_tbl := ce_t (i := 577) (by decide +kernel)
theorem kRX7_126 : Cond.methodLink RX7 126 yX0_memberFault ∈ lw_tbl := ce_t (i := 581) (by decide +kernel)
theorem kRX7_129 : Cond.methodLink RX7 129 yX1_remember ∈ lw_tbl := ce_t (i := 585) (by decide +kernel)
theorem kRX1_22 : Cond.methodLink RX1 22 yX1_forgetOldest ∈ lw_tbl := ce_t (i := 589) (by decide +kernel)
theorem kRX1_25 : Cond.methodLink RX1 25 yX0_copyFrom ∈ lw_tbl := ce_t (i := 593) (by decide +kernel)
theorem kRX7_132 : Cond.methodLink RX7 132 yX0_enrol ∈ lw_tbl := ce_t (i := 594) (by decide +kernel)
theorem kRL_145 : Cond.methodLink RL 145 yL_addWine ∈ lw_tbl := ce_t (i := 595) (by decide +kernel)
theorem kRL_43 : Cond.methodLink RL 43 yX7_addWine ∈ lw_tbl := ce_t (i := 598) (by decide +kernel)
theorem kRX7_135 : Cond.methodLink RX7 135 yX0_wineFault ∈ lw_tbl := ce_t (i := 602) (by decide +kernel)
theorem kRX7_138 : Cond.methodLink RX7 138 yX0_offer ∈ lw_tbl := ce_t (i := 606) (by decide +kernel)
theorem kRL_148 : Cond.methodLink RL 148 yL_addBin ∈ lw_tbl := ce_t (i := 607) (by decide +kernel)
theorem kRL_46 : Cond.methodLink RL 46 yX7_addBin ∈ lw_tbl := ce_t (i := 610) (by decide +kernel)
theorem kRX7_141 : Cond.methodLink RX7 141 yX3_binFault ∈ lw_tbl := ce_t (i := 614) (by decide +kernel)
theorem kRX7_144 : Cond.methodLink RX7 144 yX3_install ∈ lw_tbl := ce_t (i := 618) (by decide +kernel)
theorem kRL_151 : Cond.methodLink RL 151 yL_order ∈ lw_tbl := ce_t (i := 619) (by decide +kernel)
theorem kRL_49 : Cond.methodLink RL 49 yX7_order ∈ lw_tbl := ce_t (i := 622) (by decide +kernel)
theorem kRX7_147 : Cond.methodLink RX7 147 yX0_orderFault ∈ lw_tbl := ce_t (i := 626) (by decide +kernel)
theorem kRX0_98 : Cond.methodLink RX0 98 yX0_knowsBoth ∈ lw_tbl := ce_t (i := 630) (by decide +kernel)
theorem kRX7_150 : Cond.methodLink RX7 150 yX0_changeOrder ∈ lw_tbl := ce_t (i := 631) (by decide +kernel)
theorem kRL_154 : Cond.methodLink RL 154 yL_allocate ∈ lw_tbl := ce_t (i := 632) (by decide +kernel)
theorem kRL_52 : Cond.methodLink RL 52 yX7_allocate ∈ lw_tbl := ce_t (i := 635) (by decide +kernel)
theorem kRX7_153 : Cond.methodLink RX7 153 yX0_allocationFault ∈ lw_tbl := ce_t (i := 639) (by decide +kernel)
theorem kRX7_156 : Cond.methodLink RX7 156 yX0_shareOut ∈ lw_tbl := ce_t (i := 643) (by decide +kernel)
theorem kRX0_106 : Cond.methodLink RX0 106 yX0_nextToGet ∈ lw_tbl := ce_t (i := 647) (by decide +kernel)
theorem kRX0_121 : Cond.methodLink RX0 121 yX0_comesBefore ∈ lw_tbl := ce_t (i := 652) (by decide +kernel)
theorem kRX0_110 : Cond.methodLink RX0 110 yX5_add ∈ lw_tbl := ce_t (i := 656) (by decide +kernel)
theorem kRX0_113 : Cond.methodLink RX0 113 yX0_paidAhead ∈ lw_tbl := ce_t (i := 660) (by decide +kernel)
theorem kRX0_116 : Cond.methodLink RX0 116 yJ9_min_7cf53 ∈ lw_tbl := ce_t (i := 664) (by decide +kernel)
theorem kRL_157 : Cond.methodLink RL 157 yL_deliver ∈ lw_tbl := ce_t (i := 665) (by decide +kernel)
theorem kRL_55 : Cond.methodLink RL 55 yX7_deliver ∈ lw_tbl := ce_t (i := 668) (by decide +kernel)
theorem kRX7_159 : Cond.methodLink RX7 159 yX0_deliveryFault ∈ lw_tbl := ce_t (i := 672) (by decide +kernel)
theorem kRX0_125 : Cond.methodLink RX0 125 yX3_roomForWine ∈ lw_tbl := ce_t (i := 676) (by decide +kernel)
theorem kRX3_30 : Cond.methodLink RX3 30 yX3_takesWine ∈ lw_tbl := ce_t (i := 680) (by decide +kernel)
theorem kRX7_162 : Cond.methodLink RX7 162 yX0_bringIn ∈ lw_tbl := ce_t (i := 684) (by decide +kernel)
theorem kRX0_128 : Cond.methodLink RX0 128 yX3_lay ∈ lw_tbl := ce_t (i := 688) (by decide +kernel)
theorem kRX3_34 : Cond.methodLink RX3 34 yX3_binToFillUp ∈ lw_tbl := ce_t (i := 692) (by decide +kernel)
theorem kRX3_37 : Cond.methodLink RX3 37 yX3_emptyBinFor ∈ lw_tbl := ce_t (i := 696) (by decide +kernel)
theorem kRX3_50 : Cond.methodLink RX3 50 yX3_suitsBetter ∈ lw_tbl := ce_t (i := 700) (by decide +kernel)
theorem kRX3_40 : Cond.methodLink RX3 40 yJ9_min_7cf53 ∈ lw_tbl := ce_t (i := 703) (by decide +kernel)
theorem kRX3_46 : Cond.methodLink RX3 46 yX3_putInto ∈ lw_tbl := ce_t (i := 704) (by decide +kernel)
theorem kRL_160 : Cond.methodLink RL 160 yL_drink ∈ lw_tbl := ce_t (i := 708) (by decide +kernel)
theorem kRL_58 : Cond.methodLink RL 58 yX7_drink ∈ lw_tbl := ce_t (i := 711) (by decide +kernel)
theorem kRX7_165 : Cond.methodLink RX7 165 yX0_drinkFault ∈ lw_tbl := ce_t (i := 715) (by decide +kernel)
theorem kRX7_168 : Cond.methodLink RX7 168 yX0_drinkUp ∈ lw_tbl := ce_t (i := 719) (by decide +kernel)
theorem kRX0_132 : Cond.methodLink RX0 132 yX3_take ∈ lw_tbl := ce_t (i := 723) (by decide +kernel)
theorem kRX3_54 : Cond.methodLink RX3 54 yX3_binToTakeFrom ∈ lw_tbl := ce_t (i := 727) (by decide +kernel)
theorem kRX3_57 : Cond.methodLink RX3 57 yX3_removeFrom ∈ lw_tbl := ce_t (i := 731) (by decide +kernel)
theorem kRL_163 : Cond.methodLink RL 163 yL_give ∈ lw_tbl := ce_t (i := 735) (by decide +kernel)
theorem kRL_61 : Cond.methodLink RL 61 yX7_give ∈ lw_tbl := ce_t (i := 738) (by decide +kernel)
theorem kRX7_171 : Cond.methodLink RX7 171 yX0_giftFault ∈ lw_tbl := ce_t (i := 742) (by decide +kernel)
theorem kRX7_175 : Cond.methodLink RX7 175 yX0_handOver ∈ lw_tbl := ce_t (i := 746) (by decide +kernel)
theorem kRL_167 : Cond.methodLink RL 167 yL_cork ∈ lw_tbl := ce_t (i := 750) (by decide +kernel)
theorem kRL_65 : Cond.methodLink RL 65 yX7_cork ∈ lw_tbl := ce_t (i := 753) (by decide +kernel)
theorem kRX7_178 : Cond.methodLink RX7 178 yX0_corkFault ∈ lw_tbl := ce_t (i := 757) (by decide +kernel)
theorem kRX7_181 : Cond.methodLink RX7 181 yX0_replaceCorked ∈ lw_tbl := ce_t (i := 761) (by decide +kernel)
theorem kRL_170 : Cond.methodLink RL 170 yL_move ∈ lw_tbl := ce_t (i := 765) (by decide +kernel)
theorem kRL_68 : Cond.methodLink RL 68 yX7_move ∈ lw_tbl := ce_t (i := 768) (by decide +kernel)
theorem kRX7_184 : Cond.methodLink RX7 184 yX3_carryFault ∈ lw_tbl := ce_t (i := 772) (by decide +kernel)
theorem kRX3_61 : Cond.methodLink RX3 61 yX3_knows ∈ lw_tbl := ce_t (i := 776) (by decide +kernel)
theorem kRX7_187 : Cond.methodLink RX7 187 yX3_carry ∈ lw_tbl := ce_t (i := 777) (by decide +kernel)
theorem kRL_173 : Cond.methodLink RL 173 yL_pay ∈ lw_tbl := ce_t (i := 781) (by decide +kernel)
theorem kRL_71 : Cond.methodLink RL 71 yX7_pay ∈ lw_tbl := ce_t (i := 784) (by decide +kernel)
theorem kRX7_190 : Cond.methodLink RX7 190 yX0_settle ∈ lw_tbl := ce_t (i := 788) (by decide +kernel)
theorem kRL_176 : Cond.methodLink RL 176 yL_undo ∈ lw_tbl := ce_t (i := 792) (by decide +kernel)
theorem kRL_74 : Cond.methodLink RL 74 yX7_undo ∈ lw_tbl := ce_t (i := 795) (by decide +kernel)
theorem kRX7_196 : Cond.methodLink RX7 196 yX1_takeBack ∈ lw_tbl := ce_t (i := 799) (by decide +kernel)
theorem kRL_179 : Cond.methodLink RL 179 yL_wouldGet ∈ lw_tbl := ce_t (i := 803) (by decide +kernel)
theorem kRL_77 : Cond.methodLink RL 77 yX7_wouldGet ∈ lw_tbl := ce_t (i := 806) (by decide +kernel)
theorem kRX7_204 : Cond.methodLink RX7 204 yX4_begin ∈ lw_tbl := ce_t (i := 810) (by decide +kernel)
theorem kRX4_18 : Cond.methodLink RX4 18 yX0_copyFrom ∈ lw_tbl := ce_t (i := 814) (by decide +kernel)
theorem kRX7_207 : Cond.methodLink RX7 207 yX4_allocates ∈ lw_tbl := ce_t (i := 815) (by decide +kernel)
theorem kRX4_84 : Cond.methodLink RX4 84 yX0_allocationFault ∈ lw_tbl := ce_t (i := 819) (by decide +kernel)
theorem kRX4_88 : Cond.methodLink RX4 88 yX0_shareOut ∈ lw_tbl := ce_t (i := 820) (by decide +kernel)
theorem kRX7_217 : Cond.methodLink RX7 217 yX5_of ∈ lw_tbl := ce_t (i := 821) (by decide +kernel)
theorem kRL_182 : Cond.methodLink RL 182 yL_roomFor ∈ lw_tbl := ce_t (i := 822) (by decide +kernel)
theorem kRL_80 : Cond.methodLink RL 80 yX7_roomFor ∈ lw_tbl := ce_t (i := 825) (by decide +kernel)
theorem kRX7_222 : Cond.methodLink RX7 222 yX3_roomForWine ∈ lw_tbl := ce_t (i := 829) (by decide +kernel)
theorem kRL_189 : Cond.methodLink RL 189 yL_shortest ∈ lw_tbl := ce_t (i := 830) (by decide +kernel)
theorem kRL_83 : Cond.methodLink RL 83 yX7_shortest ∈ lw_tbl := ce_t (i := 833) (by decide +kernel)
theorem kRL_194 : Cond.methodLink RL 194 yL_runScript ∈ lw_tbl := ce_t (i := 837) (by decide +kernel)
theorem kRL_86 : Cond.methodLink RL 86 yX7_runScript ∈ lw_tbl := ce_t (i := 840) (by decide +kernel)
theorem kRX7_231 : Cond.methodLink RX7 231 yX7_scriptFault ∈ lw_tbl := ce_t (i := 844) (by decide +kernel)
theorem kRX7_235 : Cond.methodLink RX7 235 yX7_groupAt ∈ lw_tbl := ce_t (i := 848) (by decide +kernel)
theorem kRX7_239 : Cond.methodLink RX7 239 yX4_obeys ∈ lw_tbl := ce_t (i := 851) (by decide +kernel)
theorem kRX4_22 : Cond.methodLink RX4 22 yX4_orders ∈ lw_tbl := ce_t (i := 855) (by decide +kernel)
theorem kRX4_77 : Cond.methodLink RX4 77 yX0_orderFault ∈ lw_tbl := ce_t (i := 859) (by decide +kernel)
theorem kRX4_81 : Cond.methodLink RX4 81 yX0_changeOrder ∈ lw_tbl := ce_t (i := 860) (by decide +kernel)
theorem kRX4_26 : Cond.methodLink RX4 26 yX4_allocates ∈ lw_tbl := ce_t (i := 861) (by decide +kernel)
end
section
theorem kRX4_30 : Cond.methodLink RX4 30 yX4_delivers ∈ lw_tbl := ce_t (i := 862) (by decide +kernel)
theorem kRX4_91 : Cond.methodLink RX4 91 yX0_deliveryFault ∈ lw_tbl := ce_t (i := 866) (by decide +kernel)
theorem kRX4_94 : Cond.methodLink RX4 94 yX0_bringIn ∈ lw_tbl := ce_t (i := 867) (by decide +kernel)
theorem kRX4_33 : Cond.methodLink RX4 33 yX4_drinks ∈ lw_tbl := ce_t (i := 868) (by decide +kernel)
theorem kRX4_97 : Cond.methodLink RX4 97 yX0_drinkFault ∈ lw_tbl := ce_t (i := 872) (by decide +kernel)
theorem kRX4_100 : Cond.methodLink RX4 100 yX0_drinkUp ∈ lw_tbl := ce_t (i := 873) (by decide +kernel)
theorem kRX4_36 : Cond.methodLink RX4 36 yX4_gives ∈ lw_tbl := ce_t (i := 874) (by decide +kernel)
theorem kRX4_103 : Cond.methodLink RX4 103 yX0_giftFault ∈ lw_tbl := ce_t (i := 878) (by decide +kernel)
theorem kRX4_107 : Cond.methodLink RX4 107 yX0_handOver ∈ lw_tbl := ce_t (i := 879) (by decide +kernel)
theorem kRX4_40 : Cond.methodLink RX4 40 yX4_corks ∈ lw_tbl := ce_t (i := 880) (by decide +kernel)
theorem kRX4_110 : Cond.methodLink RX4 110 yX0_corkFault ∈ lw_tbl := ce_t (i := 884) (by decide +kernel)
theorem kRX4_113 : Cond.methodLink RX4 113 yX0_replaceCorked ∈ lw_tbl := ce_t (i := 885) (by decide +kernel)
theorem kRX4_44 : Cond.methodLink RX4 44 yX4_moves ∈ lw_tbl := ce_t (i := 886) (by decide +kernel)
theorem kRX4_116 : Cond.methodLink RX4 116 yX3_carryFault ∈ lw_tbl := ce_t (i := 890) (by decide +kernel)
theorem kRX4_119 : Cond.methodLink RX4 119 yX3_carry ∈ lw_tbl := ce_t (i := 891) (by decide +kernel)
theorem kRX4_47 : Cond.methodLink RX4 47 yX0_knowsBoth ∈ lw_tbl := ce_t (i := 892) (by decide +kernel)
theorem kRX4_54 : Cond.methodLink RX4 54 yX5_of ∈ lw_tbl := ce_t (i := 893) (by decide +kernel)
theorem kRX4_64 : Cond.methodLink RX4 64 yX3_emptyBins ∈ lw_tbl := ce_t (i := 894) (by decide +kernel)
theorem kRL_198 : Cond.methodLink RL 198 yL_simulate ∈ lw_tbl := ce_t (i := 895) (by decide +kernel)
theorem kRL_90 : Cond.methodLink RL 90 yX7_simulate ∈ lw_tbl := ce_t (i := 898) (by decide +kernel)
theorem kRX7_246 : Cond.methodLink RX7 246 yX4_spendEvening ∈ lw_tbl := ce_t (i := 904) (by decide +kernel)
theorem kRX7_252 : Cond.methodLink RX7 252 yX5_ofAll ∈ lw_tbl := ce_t (i := 908) (by decide +kernel)
theorem kRX7_255 : Cond.methodLink RX7 255 yX3_emptyBins ∈ lw_tbl := ce_t (i := 909) (by decide +kernel)
theorem kRL_202 : Cond.methodLink RL 202 yL_save ∈ lw_tbl := ce_t (i := 910) (by decide +kernel)
theorem kRL_94 : Cond.methodLink RL 94 yX7_save ∈ lw_tbl := ce_t (i := 913) (by decide +kernel)
theorem kRX7_258 : Cond.methodLink RX7 258 yX7_isSlot ∈ lw_tbl := ce_t (i := 917) (by decide +kernel)
theorem kRL_205 : Cond.methodLink RL 205 yL_restore ∈ lw_tbl := ce_t (i := 920) (by decide +kernel)
theorem kRL_97 : Cond.methodLink RL 97 yX7_restore ∈ lw_tbl := ce_t (i := 923) (by decide +kernel)
theorem kRX7_261 : Cond.methodLink RX7 261 yX7_restoreFault ∈ lw_tbl := ce_t (i := 927) (by decide +kernel)
theorem kRL_103 : Cond.methodLink RL 103 yX8_init ∈ lw_tbl := ce_t (i := 933) (by decide +kernel)
theorem kRX8_1 : Cond.methodLink RX8 1 Lib.objectInit ∈ lw_tbl := ce_t (i := 936) (by decide +kernel)
theorem kRL_110 : Cond.methodLink RL 110 yX8_thrown ∈ lw_tbl := ce_t (i := 983) (by decide +kernel)
theorem kRL_109 : Cond.methodLink RL 109 yX8_append ∈ lw_tbl := ce_t (i := 987) (by decide +kernel)
theorem kRX8_108 : Cond.methodLink RX8 108 yX8_in ∈ lw_tbl := ce_t (i := 992) (by decide +kernel)
theorem kRX8_115 : Cond.methodLink RX8 115 yX8_refused ∈ lw_tbl := ce_t (i := 995) (by decide +kernel)
theorem kRL_116 : Cond.methodLink RL 116 yX8_clearText ∈ lw_tbl := ce_t (i := 999) (by decide +kernel)
theorem kRL_120 : Cond.methodLink RL 120 yX8_errorPosition ∈ lw_tbl := ce_t (i := 1003) (by decide +kernel)
theorem kRX8_154 : Cond.methodLink RX8 154 yX8_readText ∈ lw_tbl := ce_t (i := 1007) (by decide +kernel)
theorem kRX8_135 : Cond.methodLink RX8 135 yX8_isNext ∈ lw_tbl := ce_t (i := 1011) (by decide +kernel)
theorem kRX8_128 : Cond.methodLink RX8 128 yX8_accept ∈ lw_tbl := ce_t (i := 1015) (by decide +kernel)
theorem kRX8_151 : Cond.methodLink RX8 151 yX8_readPart ∈ lw_tbl := ce_t (i := 1019) (by decide +kernel)
theorem kRX8_132 : Cond.methodLink RX8 132 yX8_digit ∈ lw_tbl := ce_t (i := 1023) (by decide +kernel)
theorem kRX8_138 : Cond.methodLink RX8 138 yX8_two ∈ lw_tbl := ce_t (i := 1029) (by decide +kernel)
theorem kRX8_141 : Cond.methodLink RX8 141 yX8_addMemberTo ∈ lw_tbl := ce_t (i := 1033) (by decide +kernel)
theorem kRX8_83 : Cond.methodLink RX8 83 yX8_memberAt ∈ lw_tbl := ce_t (i := 1036) (by decide +kernel)
theorem kRX8_145 : Cond.methodLink RX8 145 yX8_addWineTo ∈ lw_tbl := ce_t (i := 1039) (by decide +kernel)
theorem kRX8_62 : Cond.methodLink RX8 62 yX8_wineAt ∈ lw_tbl := ce_t (i := 1042) (by decide +kernel)
theorem kRX8_148 : Cond.methodLink RX8 148 yX8_addBinTo ∈ lw_tbl := ce_t (i := 1045) (by decide +kernel)
theorem kRX8_58 : Cond.methodLink RX8 58 yX8_binAt ∈ lw_tbl := ce_t (i := 1048) (by decide +kernel)
theorem kRX8_54 : Cond.methodLink RX8 54 yX8_hold ∈ lw_tbl := ce_t (i := 1051) (by decide +kernel)
theorem kRL_124 : Cond.methodLink RL 124 yX8_load ∈ lw_tbl := ce_t (i := 1054) (by decide +kernel)
theorem kRX8_50 : Cond.methodLink RX8 50 yX8_copy ∈ lw_tbl := ce_t (i := 1058) (by decide +kernel)
theorem kRL_127 : Cond.methodLink RL 127 yX8_about ∈ lw_tbl := ce_t (i := 1061) (by decide +kernel)
theorem kRX8_158 : Cond.methodLink RX8 158 yX8_cellar ∈ lw_tbl := ce_t (i := 1065) (by decide +kernel)
theorem kRX8_162 : Cond.methodLink RX8 162 yX8_ofWine ∈ lw_tbl := ce_t (i := 1068) (by decide +kernel)
theorem kRX8_165 : Cond.methodLink RX8 165 yX8_owedByAll ∈ lw_tbl := ce_t (i := 1071) (by decide +kernel)
theorem kRX8_168 : Cond.methodLink RX8 168 yX8_emptyBins ∈ lw_tbl := ce_t (i := 1074) (by decide +kernel)
theorem kRX8_171 : Cond.methodLink RX8 171 yX8_allRoom ∈ lw_tbl := ce_t (i := 1077) (by decide +kernel)
theorem kRX8_70 : Cond.methodLink RX8 70 yX8_roomIn ∈ lw_tbl := ce_t (i := 1080) (by decide +kernel)
theorem kRL_131 : Cond.methodLink RL 131 yX8_member ∈ lw_tbl := ce_t (i := 1083) (by decide +kernel)
theorem kRX8_174 : Cond.methodLink RX8 174 yX8_isMember ∈ lw_tbl := ce_t (i := 1087) (by decide +kernel)
theorem kRX8_179 : Cond.methodLink RX8 179 yX8_ownedBy ∈ lw_tbl := ce_t (i := 1092) (by decide +kernel)
theorem kRL_134 : Cond.methodLink RL 134 yX8_wine ∈ lw_tbl := ce_t (i := 1095) (by decide +kernel)
theorem kRX8_182 : Cond.methodLink RX8 182 yX8_isWine ∈ lw_tbl := ce_t (i := 1099) (by decide +kernel)
theorem kRX8_95 : Cond.methodLink RX8 95 yX8_allOf ∈ lw_tbl := ce_t (i := 1104) (by decide +kernel)
theorem kRL_137 : Cond.methodLink RL 137 yX8_bin ∈ lw_tbl := ce_t (i := 1107) (by decide +kernel)
theorem kRX8_187 : Cond.methodLink RX8 187 yX8_isBin ∈ lw_tbl := ce_t (i := 1111) (by decide +kernel)
theorem kRL_141 : Cond.methodLink RL 141 yX8_has ∈ lw_tbl := ce_t (i := 1116) (by decide +kernel)
theorem kRL_144 : Cond.methodLink RL 144 yX8_addMember ∈ lw_tbl := ce_t (i := 1120) (by decide +kernel)
theorem kRX8_194 : Cond.methodLink RX8 194 yX8_remember ∈ lw_tbl := ce_t (i := 1125) (by decide +kernel)
theorem kRL_147 : Cond.methodLink RL 147 yX8_addWine ∈ lw_tbl := ce_t (i := 1129) (by decide +kernel)
theorem kRL_150 : Cond.methodLink RL 150 yX8_addBin ∈ lw_tbl := ce_t (i := 1135) (by decide +kernel)
theorem kRL_153 : Cond.methodLink RL 153 yX8_order ∈ lw_tbl := ce_t (i := 1140) (by decide +kernel)
theorem kRL_156 : Cond.methodLink RL 156 yX8_allocate ∈ lw_tbl := ce_t (i := 1144) (by decide +kernel)
theorem kRX8_203 : Cond.methodLink RX8 203 yX8_goAllocate ∈ lw_tbl := ce_t (i := 1148) (by decide +kernel)
theorem kRX8_86 : Cond.methodLink RX8 86 yX8_layGot ∈ lw_tbl := ce_t (i := 1152) (by decide +kernel)
theorem kRX8_80 : Cond.methodLink RX8 80 yX8_isAhead ∈ lw_tbl := ce_t (i := 1156) (by decide +kernel)
theorem kRX8_89 : Cond.methodLink RX8 89 yX8_half ∈ lw_tbl := ce_t (i := 1160) (by decide +kernel)
theorem kRL_159 : Cond.methodLink RL 159 yX8_deliver ∈ lw_tbl := ce_t (i := 1163) (by decide +kernel)
theorem kRX8_206 : Cond.methodLink RX8 206 yX8_canDeliver ∈ lw_tbl := ce_t (i := 1167) (by decide +kernel)
theorem kRX8_92 : Cond.methodLink RX8 92 yX8_roomOf ∈ lw_tbl := ce_t (i := 1170) (by decide +kernel)
theorem kRX8_66 : Cond.methodLink RX8 66 yX8_hasWine ∈ lw_tbl := ce_t (i := 1173) (by decide +kernel)
theorem kRX8_210 : Cond.methodLink RX8 210 yX8_goDeliver ∈ lw_tbl := ce_t (i := 1176) (by decide +kernel)
theorem kRX8_99 : Cond.methodLink RX8 99 yX8_lay ∈ lw_tbl := ce_t (i := 1179) (by decide +kernel)
theorem kRX8_74 : Cond.methodLink RX8 74 yX8_tightest ∈ lw_tbl := ce_t (i := 1182) (by decide +kernel)
theorem kRX8_77 : Cond.methodLink RX8 77 yX8_emptyFor ∈ lw_tbl := ce_t (i := 1185) (by decide +kernel)
theorem kRL_162 : Cond.methodLink RL 162 yX8_drink ∈ lw_tbl := ce_t (i := 1188) (by decide +kernel)
theorem kRX8_213 : Cond.methodLink RX8 213 yX8_goDrink ∈ lw_tbl := ce_t (i := 1192) (by decide +kernel)
theorem kRX8_103 : Cond.methodLink RX8 103 yX8_take ∈ lw_tbl := ce_t (i := 1195) (by decide +kernel)
theorem kRL_166 : Cond.methodLink RL 166 yX8_give ∈ lw_tbl := ce_t (i := 1198) (by decide +kernel)
theorem kRX8_217 : Cond.methodLink RX8 217 yX8_goGive ∈ lw_tbl := ce_t (i := 1202) (by decide +kernel)
theorem kRL_169 : Cond.methodLink RL 169 yX8_cork ∈ lw_tbl := ce_t (i := 1205) (by decide +kernel)
theorem kRX8_221 : Cond.methodLink RX8 221 yX8_goCork ∈ lw_tbl := ce_t (i := 1209) (by decide +kernel)
theorem kRL_172 : Cond.methodLink RL 172 yX8_move ∈ lw_tbl := ce_t (i := 1212) (by decide +kernel)
theorem kRX8_224 : Cond.methodLink RX8 224 yX8_canMove ∈ lw_tbl := ce_t (i := 1216) (by decide +kernel)
theorem kRX8_228 : Cond.methodLink RX8 228 yX8_goMove ∈ lw_tbl := ce_t (i := 1219) (by decide +kernel)
theorem kRL_175 : Cond.methodLink RL 175 yX8_pay ∈ lw_tbl := ce_t (i := 1222) (by decide +kernel)
theorem kRL_178 : Cond.methodLink RL 178 yX8_undo ∈ lw_tbl := ce_t (i := 1226) (by decide +kernel)
theorem kRL_181 : Cond.methodLink RL 181 yX8_wouldGet ∈ lw_tbl := ce_t (i := 1230) (by decide +kernel)
theorem kRL_184 : Cond.methodLink RL 184 yX8_roomFor ∈ lw_tbl := ce_t (i := 1234) (by decide +kernel)
theorem kRL_188 : Cond.methodLink RL 188 yX8_fewestBins ∈ lw_tbl := ce_t (i := 1238) (by decide +kernel)
theorem kRX8_237 : Cond.methodLink RX8 237 yX8_layWine ∈ lw_tbl := ce_t (i := 1242) (by decide +kernel)
theorem kRX8_231 : Cond.methodLink RX8 231 yX8_sizes ∈ lw_tbl := ce_t (i := 1246) (by decide +kernel)
theorem kRX8_234 : Cond.methodLink RX8 234 yX8_bits ∈ lw_tbl := ce_t (i := 1249) (by decide +kernel)
theorem kRL_191 : Cond.methodLink RL 191 yX8_shortest ∈ lw_tbl := ce_t (i := 1252) (by decide +kernel)
theorem kRL_197 : Cond.methodLink RL 197 yX8_runScript ∈ lw_tbl := ce_t (i := 1256) (by decide +kernel)
theorem kRX8_244 : Cond.methodLink RX8 244 yX8_tenTo ∈ lw_tbl := ce_t (i := 1260) (by decide +kernel)
theorem kRX8_248 : Cond.methodLink RX8 248 yX8_begin ∈ lw_tbl := ce_t (i := 1264) (by decide +kernel)
theorem kRX8_253 : Cond.methodLink RX8 253 yX8_does ∈ lw_tbl := ce_t (i := 1269) (by decide +kernel)
theorem kRX8_241 : Cond.methodLink RX8 241 yX8_owns ∈ lw_tbl := ce_t (i := 1273) (by decide +kernel)
theorem kRL_201 : Cond.methodLink RL 201 yX8_simulate ∈ lw_tbl := ce_t (i := 1276) (by decide +kernel)
theorem kRX8_260 : Cond.methodLink RX8 260 yX8_evening ∈ lw_tbl := ce_t (i := 1282) (by decide +kernel)
theorem kRL_204 : Cond.methodLink RL 204 yX8_save ∈ lw_tbl := ce_t (i := 1286) (by decide +kernel)
theorem kRL_207 : Cond.methodLink RL 207 yX8_restore ∈ lw_tbl := ce_t (i := 1290) (by decide +kernel)
theorem fRX5_9 : ce_FR RX5 9 5 0 := ⟨⟨RX5, TX5, 1, rfl, by decide, rfl, Or.inl (ce_t (i := 39) (by decide +kernel))⟩, by decide +kernel⟩
theorem pRX5_9 : ce_PF RX5 9 5 0 := ⟨fRX5_9, RX5, TX5, 1, tyX5 0, rfl, by decide, rfl, rfl, rfl, by decide +kernel, fun _ => ⟨rfl, rfl⟩, ce_t (i := 39) (by decide +kernel)⟩
theorem fRX2_25 : ce_FI RX2 25 3 0 := ⟨⟨RX3, TX3, 4, rfl, by decide, rfl, Or.inr ⟨"CellarClub", ce_t (i := 50) (by decide +kernel)⟩⟩, by decide +kernel⟩
theorem pRX2_25 : ce_PI RX2 25 3 0 .int := ⟨fRX2_25, _, rfl, rfl, by decide +kernel⟩
theorem fRX3_21 : ce_FI RX3 21 3 0 := ⟨⟨RX3, TX3, 4, rfl, by decide, rfl, Or.inl (ce_t (i := 51) (by decide +kernel))⟩, by decide +kernel⟩
theorem pRX3_21 : ce_PI RX3 21 3 0 .int := ⟨fRX3_21, _, rfl, rfl, by decide +kernel⟩
theorem fRX0_70 : ce_FI RX0 70 3 0 := ⟨⟨RX3, TX3, 4, rfl, by decide, rfl, Or.inr ⟨"CellarClub", ce_t (i := 52) (by decide +kernel)⟩⟩, by decide +kernel⟩
theorem pRX0_70 : ce_PI RX0 70 3 0 .int := ⟨fRX0_70, _, rfl, rfl, by decide +kernel⟩
theorem fRX6_75 : ce_FI RX6 75 3 0 := ⟨⟨RX3, TX3, 4, rfl, by decide, rfl, Or.inr ⟨"CellarClub", ce_t (i := 53) (by decide +kernel)⟩⟩, by decide +kernel⟩
theorem pRX6_75 : ce_PI RX6 75 3 0 .int := ⟨fRX6_75, _, rfl, rfl, by decide +kernel⟩
theorem fRX3_9 : ce_FR RX3 9 3 1 := ⟨⟨RX3, TX3, 4, rfl, by decide, rfl, Or.inl (ce_t (i := 54) (by decide +kernel))⟩, by decide +kernel⟩
theorem pRX3_9 : ce_PF RX3 9 3 1 := ⟨fRX3_9, RX3, TX3, 4, tyX3 1, rfl, by decide, rfl, rfl, rfl, by decide +kernel, fun _ => ⟨rfl, rfl⟩, ce_t (i := 54) (by decide +kernel)⟩
theorem fRX2_63 : ce_FR RX2 63 3 1 := ⟨⟨RX3, TX3, 4, rfl, by decide, rfl, Or.inr ⟨"CellarClub", ce_t (i := 55) (by decide +kernel)⟩⟩, by decide +kernel⟩
theorem fRX3_15 : ce_FR RX3 15 3 2 := ⟨⟨RX3, TX3, 4, rfl, by decide, rfl, Or.inl (ce_t (i := 56) (by decide +kernel))⟩, by decide +kernel⟩
theorem pRX3_15 : ce_PF RX3 15 3 2 := ⟨fRX3_15, RX3, TX3, 4, tyX3 2, rfl, by decide, rfl, rfl, rfl, by decide +kernel, fun _ => ⟨rfl, rfl⟩, ce_t (i := 56) (by decide +kernel)⟩
theorem fRX3_18 : ce_FR RX3 18 3 3 := ⟨⟨RX3, TX3, 4, rfl, by decide, rfl, Or.inl (ce_t (i := 57) (by decide +kernel))⟩, by decide +kernel⟩
theorem pRX3_18 : ce_PF RX3 18 3 3 := ⟨fRX3_18, RX3, TX3, 4, tyX3 3, rfl, by decide, rfl, rfl, rfl, by decide +kernel, fun _ => ⟨rfl, rfl⟩, ce_t (i := 57) (by decide +kernel)⟩
theorem fRX0_56 : ce_FI RX0 56 0 0 := ⟨⟨RX0, TX0, 14, rfl, by decide, rfl, Or.inl (ce_t (i := 67) (by decide +kernel))⟩, by decide +kernel⟩
theorem pRX0_56 : ce_PI RX0 56 0 0 .int := ⟨fRX0_56, _, rfl, rfl, by decide +kernel⟩
theorem fRX4_70 : ce_FI RX4 70 0 0 := ⟨⟨RX0, TX0, 14, rfl, by decide, rfl, Or.inr ⟨"CellarClub", ce_t (i := 68) (by decide +kernel)⟩⟩, by decide +kernel⟩
theorem pRX4_70 : ce_PI RX4 70 0 0 .int := ⟨fRX4_70, _, rfl, rfl, by decide +kernel⟩
theorem fRX7_82 : ce_FI RX7 82 0 0 := ⟨⟨RX0, TX0, 14, rfl, by decide, rfl, Or.inr ⟨"CellarClub", ce_t (i := 69) (by decide +kernel)⟩⟩, by decide +kernel⟩
theorem pRX7_82 : ce_PI RX7 82 0 0 .int := ⟨fRX7_82, _, rfl, rfl, by decide +kernel⟩
theorem fRX6_53 : ce_FI RX6 53 0 0 := ⟨⟨RX0, TX0, 14, rfl, by decide, rfl, Or.inr ⟨"CellarClub", ce_t (i := 70) (by decide +kernel)⟩⟩, by decide +kernel⟩
theorem pRX6_53 : ce_PI RX6 53 0 0 .int := ⟨fRX6_53, _, rfl, rfl, by decide +kernel⟩
theorem fRX2_35 : ce_FI RX2 35 0 1 := ⟨⟨RX0, TX0, 14, rfl, by decide, rfl, Or.inr ⟨"CellarClub", ce_t (i := 71) (by decide +kernel)⟩⟩, by decide +kernel⟩
theorem pRX2_35 : ce_PI RX2 35 0 1 .int := ⟨fRX2_35, _, rfl, rfl, by decide +kernel⟩
theorem fRX0_60 : ce_FI RX0 60 0 1 := ⟨⟨RX0, TX0, 14, rfl, by decide, rfl, Or.inl (ce_t (i := 72) (by decide +kernel))⟩, by decide +kernel⟩
theorem pRX0_60 : ce_PI RX0 60 0 1 .int := ⟨fRX0_60, _, rfl, rfl, by decide +kernel⟩
theorem fRX4_74 : ce_FI RX4 74 0 1 := ⟨⟨RX0, TX0, 14, rfl, by decide, rfl, Or.inr ⟨"CellarClub", ce_t (i := 73) (by decide +kernel)⟩⟩, by decide +kernel⟩
theorem pRX4_74 : ce_PI RX4 74 0 1 .int := ⟨fRX4_74, _, rfl, rfl, by decide +kernel⟩
theorem fRX6_64 : ce_FI RX6 64 0 1 := ⟨⟨RX0, TX0, 14, rfl, by decide, rfl, Or.inr ⟨"CellarClub", ce_t (i := 74) (by decide +kernel)⟩⟩, by decide +kernel⟩
theorem pRX6_64 : ce_PI RX6 64 0 1 .int := ⟨fRX6_64, _, rfl, rfl, by decide +kernel⟩
theorem fRX0_9 : ce_FR RX0 9 0 2 := ⟨⟨RX0, TX0, 14, rfl, by decide, rfl, Or.inl (ce_t (i := 75) (by decide +kernel))⟩, by decide +kernel⟩
theorem pRX0_9 : ce_PF RX0 9 0 2 := ⟨fRX0_9, RX0, TX0, 14, tyX0 2, rfl, by decide, rfl, rfl, rfl, by decide +kernel, fun _ => ⟨rfl, rfl⟩, ce_t (i := 75) (by decide +kernel)⟩
theorem fRX0_15 : ce_FR RX0 15 0 3 := ⟨⟨RX0, TX0, 14, rfl, by decide, rfl, Or.inl (ce_t (i := 76) (by decide +kernel))⟩, by decide +kernel⟩
theorem pRX0_15 : ce_PF RX0 15 0 3 := ⟨fRX0_15, RX0, TX0, 14, tyX0 3, rfl, by decide, rfl, rfl, rfl, by decide +kernel, fun _ => ⟨rfl, rfl⟩, ce_t (i := 76) (by decide +kernel)⟩
theorem fRX0_18 : ce_FR RX0 18 0 4 := ⟨⟨RX0, TX0, 14, rfl, by decide, rfl, Or.inl (ce_t (i := 77) (by decide +kernel))⟩, by decide +kernel⟩
theorem pRX0_18 : ce_PF RX0 18 0 4 := ⟨fRX0_18, RX0, TX0, 14, tyX0 4, rfl, by decide, rfl, rfl, rfl, by decide +kernel, fun _ => ⟨rfl, rfl⟩, ce_t (i := 77) (by decide +kernel)⟩
theorem fRX0_21 : ce_FR RX0 21 0 5 := ⟨⟨RX0, TX0, 14, rfl, by decide, rfl, Or.inl (ce_t (i := 78) (by decide +kernel))⟩, by decide +kernel⟩
theorem pRX0_21 : ce_PF RX0 21 0 5 := ⟨fRX0_21, RX0, TX0, 14, tyX0 5, rfl, by decide, rfl, rfl, rfl, by decide +kernel, fun _ => ⟨rfl, rfl⟩, ce_t (i := 78) (by decide +kernel)⟩
theorem fRX0_24 : ce_FR RX0 24 0 6 := ⟨⟨RX0, TX0, 14, rfl, by decide, rfl, Or.inl (ce_t (i := 79) (by decide +kernel))⟩, by decide +kernel⟩
theorem pRX0_24 : ce_PF RX0 24 0 6 := ⟨fRX0_24, RX0, TX0, 14, tyX0 6, rfl, by decide, rfl, rfl, rfl, by decide +kernel, fun _ => ⟨rfl, rfl⟩, ce_t (i := 79) (by decide +kernel)⟩
theorem fRX0_27 : ce_FR RX0 27 0 7 := ⟨⟨RX0, TX0, 14, rfl, by decide, rfl, Or.inl (ce_t (i := 80) (by decide +kernel))⟩, by decide +kernel⟩
theorem pRX0_27 : ce_PF RX0 27 0 7 := ⟨fRX0_27, RX0, TX0, 14, tyX0 7, rfl, by decide, rfl, rfl, rfl, by decide +kernel, fun _ => ⟨rfl, rfl⟩, ce_t (i := 80) (by decide +kernel)⟩
theorem fRX7_200 : ce_FR RX7 200 0 7 := ⟨⟨RX0, TX0, 14, rfl, by decide, rfl, Or.inr ⟨"CellarClub", ce_t (i := 81) (by decide +kernel)⟩⟩, by decide +kernel⟩
theorem fRX0_30 : ce_FR RX0 30 0 8 := ⟨⟨RX0, TX0, 14, rfl, by decide, rfl, Or.inl (ce_t (i := 82) (by decide +kernel))⟩, by decide +kernel⟩
theorem pRX0_30 : ce_PF RX0 30 0 8 := ⟨fRX0_30, RX0, TX0, 14, tyX0 8, rfl, by decide, rfl, rfl, rfl, by decide +kernel, fun _ => ⟨rfl, rfl⟩, ce_t (i := 82) (by decide +kernel)⟩
theorem fRX0_36 : ce_FR RX0 36 0 9 := ⟨⟨RX0, TX0, 14, rfl, by decide, rfl, Or.inl (ce_t (i := 83) (by decide +kernel))⟩, by decide +kernel⟩
theorem pRX0_36 : ce_PF RX0 36 0 9 := ⟨fRX0_36, RX0, TX0, 14, tyX0 9, rfl, by decide, rfl, rfl, rfl, by decide +kernel, fun _ => ⟨rfl, rfl⟩, ce_t (i := 83) (by decide +kernel)⟩
theorem fRX7_228 : ce_FR RX7 228 0 9 := ⟨⟨RX0, TX0, 14, rfl, by decide, rfl, Or.inr ⟨"CellarClub", ce_t (i := 84) (by decide +kernel)⟩⟩, by decide +kernel⟩
theorem fRX0_40 : ce_FR RX0 40 0 10 := ⟨⟨RX0, TX0, 14, rfl, by decide, rfl, Or.inl (ce_t (i := 85) (by decide +kernel))⟩, by decide +kernel⟩
theorem pRX0_40 : ce_PF RX0 40 0 10 := ⟨fRX0_40, RX0, TX0, 14, tyX0 10, rfl, by decide, rfl, rfl, rfl, by decide +kernel, fun _ => ⟨rfl, rfl⟩, ce_t (i := 85) (by decide +kernel)⟩
theorem fRX7_213 : ce_FR RX7 213 0 10 := ⟨⟨RX0, TX0, 14, rfl, by decide, rfl, Or.inr ⟨"CellarClub", ce_t (i := 86) (by decide +kernel)⟩⟩, by decide +kernel⟩
theorem fRX0_43 : ce_FR RX0 43 0 11 := ⟨⟨RX0, TX0, 14, rfl, by decide, rfl, Or.inl (ce_t (i := 87) (by decide +kernel))⟩, by decide +kernel⟩
theorem pRX0_43 : ce_PF RX0 43 0 11 := ⟨fRX0_43, RX0, TX0, 14, tyX0 11, rfl, by decide, rfl, rfl, rfl, by decide +kernel, fun _ => ⟨rfl, rfl⟩, ce_t (i := 87) (by decide +kernel)⟩
theorem fRX2_38 : ce_FR RX2 38 0 11 := ⟨⟨RX0, TX0, 14, rfl, by decide, rfl, Or.inr ⟨"CellarClub", ce_t (i := 88) (by decide +kernel)⟩⟩, by decide +kernel⟩
theorem fRX4_50 : ce_FR RX4 50 0 11 := ⟨⟨RX0, TX0, 14, rfl, by decide, rfl, Or.inr ⟨"CellarClub", ce_t (i := 89) (by decide +kernel)⟩⟩, by decide +kernel⟩
theorem fRX7_249 : ce_FR RX7 249 0 11 := ⟨⟨RX0, TX0, 14, rfl, by decide, rfl, Or.inr ⟨"CellarClub", ce_t (i := 90) (by decide +kernel)⟩⟩, by decide +kernel⟩
theorem fRX0_46 : ce_FR RX0 46 0 12 := ⟨⟨RX0, TX0, 14, rfl, by decide, rfl, Or.inl (ce_t (i := 91) (by decide +kernel))⟩, by decide +kernel⟩
theorem pRX0_46 : ce_PF RX0 46 0 12 := ⟨fRX0_46, RX0, TX0, 14, tyX0 12, rfl, by decide, rfl, rfl, rfl, by decide +kernel, fun _ => ⟨rfl, rfl⟩, ce_t (i := 91) (by decide +kernel)⟩
theorem fRX0_52 : ce_FR RX0 52 0 13 := ⟨⟨RX0, TX0, 14, rfl, by decide, rfl, Or.inl (ce_t (i := 92) (by decide +kernel))⟩, by decide +kernel⟩
theorem pRX0_52 : ce_PF RX0 52 0 13 := ⟨fRX0_52, RX0, TX0, 14, tyX0 13, rfl, by decide, rfl, rfl, rfl, by decide +kernel, fun _ => ⟨rfl, rfl⟩, ce_t (i := 92) (by decide +kernel)⟩
theorem fRX2_19 : ce_FR RX2 19 0 13 := ⟨⟨RX0, TX0, 14, rfl, by decide, rfl, Or.inr ⟨"CellarClub", ce_t (i := 93) (by decide +kernel)⟩⟩, by decide +kernel⟩
theorem fRX4_60 : ce_FR RX4 60 0 13 := ⟨⟨RX0, TX0, 14, rfl, by decide, rfl, Or.inr ⟨"CellarClub", ce_t (i := 94) (by decide +kernel)⟩⟩, by decide +kernel⟩
theorem fRX6_71 : ce_FR RX6 71 0 13 := ⟨⟨RX0, TX0, 14, rfl, by decide, rfl, Or.inr ⟨"CellarClub", ce_t (i := 95) (by decide +kernel)⟩⟩, by decide +kernel⟩
theorem fRX7_107 : ce_FR RX7 107 0 13 := ⟨⟨RX0, TX0, 14, rfl, by decide, rfl, Or.inr ⟨"CellarClub", ce_t (i := 96) (by decide +kernel)⟩⟩, by decide +kernel⟩
theorem fRX6_9 : ce_FR RX6 9 6 0 := ⟨⟨RX6, TX6, 5, rfl, by decide, rfl, Or.inl (ce_t (i := 134) (by decide +kernel))⟩, by decide +kernel⟩
theorem pRX6_9 : ce_PF RX6 9 6 0 := ⟨fRX6_9, RX6, TX6, 5, tyX6 0, rfl, by decide, rfl, rfl, rfl, by decide +kernel, fun _ => ⟨rfl, rfl⟩, ce_t (i := 134) (by decide +kernel)⟩
theorem fRX6_25 : ce_FI RX6 25 6 1 := ⟨⟨RX6, TX6, 5, rfl, by decide, rfl, Or.inl (ce_t (i := 135) (by decide +kernel))⟩, by decide +kernel⟩
theorem pRX6_25 : ce_PI RX6 25 6 1 .int := ⟨fRX6_25, _, rfl, rfl, by decide +kernel⟩
theorem fRX6_33 : ce_FI RX6 33 6 2 := ⟨⟨RX6, TX6, 5, rfl, by decide, rfl, Or.inl (ce_t (i := 136) (by decide +kernel))⟩, by decide +kernel⟩
theorem pRX6_33 : ce_PI RX6 33 6 2 .int := ⟨fRX6_33, _, rfl, rfl, by decide +kernel⟩
theorem fRX6_18 : ce_FR RX6 18 6 3 := ⟨⟨RX6, TX6, 5, rfl, by decide, rfl, Or.inl (ce_t (i := 137) (by decide +kernel))⟩, by decide +kernel⟩
theorem pRX6_18 : ce_PF RX6 18 6 3 := ⟨fRX6_18, RX6, TX6, 5, tyX6 3, rfl, by decide, rfl, rfl, rfl, by decide +kernel, fun _ => ⟨rfl, rfl⟩, ce_t (i := 137) (by decide +kernel)⟩
theorem fRX7_72 : ce_FR RX7 72 6 3 := ⟨⟨RX6, TX6, 5, rfl, by decide, rfl, Or.inr ⟨"CellarClub", ce_t (i := 138) (by decide +kernel)⟩⟩, by decide +kernel⟩
theorem fRX6_22 : ce_FR RX6 22 6 4 := ⟨⟨RX6, TX6, 5, rfl, by decide, rfl, Or.inl (ce_t (i := 139) (by decide +kernel))⟩, by decide +kernel⟩
theorem pRX6_22 : ce_PF RX6 22 6 4 := ⟨fRX6_22, RX6, TX6, 5, tyX6 4, rfl, by decide, rfl, rfl, rfl, by decide +kernel, fun _ => ⟨rfl, rfl⟩, ce_t (i := 139) (by decide +kernel)⟩
theorem fRX1_11 : ce_FR RX1 11 1 0 := ⟨⟨RX1, TX1, 2, rfl, by decide, rfl, Or.inl (ce_t (i := 161) (by decide +kernel))⟩, by decide +kernel⟩
theorem pRX1_11 : ce_PF RX1 11 1 0 := ⟨fRX1_11, RX1, TX1, 2, tyX1 0, rfl, by decide, rfl, rfl, rfl, by decide +kernel, fun _ => ⟨rfl, rfl⟩, ce_t (i := 161) (by decide +kernel)⟩
theorem fRX1_18 : ce_FI RX1 18 1 1 := ⟨⟨RX1, TX1, 2, rfl, by decide, rfl, Or.inl (ce_t (i := 162) (by decide +kernel))⟩, by decide +kernel⟩
theorem pRX1_18 : ce_PI RX1 18 1 1 .int := ⟨fRX1_18, _, rfl, rfl, by decide +kernel⟩
theorem fRX7_193 : ce_FI RX7 193 1 1 := ⟨⟨RX1, TX1, 2, rfl, by decide, rfl, Or.inr ⟨"CellarClub", ce_t (i := 163) (by decide +kernel)⟩⟩, by decide +kernel⟩
theorem pRX7_193 : ce_PI RX7 193 1 1 .int := ⟨fRX7_193, _, rfl, rfl, by decide +kernel⟩
theorem fRX4_12 : ce_FR RX4 12 4 0 := ⟨⟨RX4, TX4, 1, rfl, by decide, rfl, Or.inl (ce_t (i := 177) (by decide +kernel))⟩, by decide +kernel⟩
theorem pRX4_12 : ce_PF RX4 12 4 0 := ⟨fRX4_12, RX4, TX4, 1, tyX4 0, rfl, by decide, rfl, rfl, rfl, by decide +kernel, fun _ => ⟨rfl, rfl⟩, ce_t (i := 177) (by decide +kernel)⟩
theorem fRX7_210 : ce_FR RX7 210 4 0 := ⟨⟨RX4, TX4, 1, rfl, by decide, rfl, Or.inr ⟨"CellarClub", ce_t (i := 178) (by decide +kernel)⟩⟩, by decide +kernel⟩
theorem fRX2_9 : ce_FR RX2 9 2 0 := ⟨⟨RX2, TX2, 2, rfl, by decide, rfl, Or.inl (ce_t (i := 188) (by decide +kernel))⟩, by decide +kernel⟩
theorem pRX2_9 : ce_PF RX2 9 2 0 := ⟨fRX2_9, RX2, TX2, 2, tyX2 0, rfl, by decide, rfl, rfl, rfl, by decide +kernel, fun _ => ⟨rfl, rfl⟩, ce_t (i := 188) (by decide +kernel)⟩
theorem fRX2_15 : ce_FR RX2 15 2 1 := ⟨⟨RX2, TX2, 2, rfl, by decide, rfl, Or.inl (ce_t (i := 189) (by decide +kernel))⟩, by decide +kernel⟩
theorem pRX2_15 : ce_PF RX2 15 2 1 := ⟨fRX2_15, RX2, TX2, 2, tyX2 1, rfl, by decide, rfl, rfl, rfl, by decide +kernel, fun _ => ⟨rfl, rfl⟩, ce_t (i := 189) (by decide +kernel)⟩
theorem fRX7_10 : ce_FR RX7 10 7 0 := ⟨⟨RX7, TX7, 7, rfl, by decide, rfl, Or.inl (ce_t (i := 196) (by decide +kernel))⟩, by decide +kernel⟩
theorem pRX7_10 : ce_PF RX7 10 7 0 := ⟨fRX7_10, RX7, TX7, 7, tyX7 0, rfl, by decide, rfl, rfl, rfl, by decide +kernel, fun _ => ⟨rfl, rfl⟩, ce_t (i := 196) (by decide +kernel)⟩
theorem fRX7_19 : ce_FR RX7 19 7 1 := ⟨⟨RX7, TX7, 7, rfl, by decide, rfl, Or.inl (ce_t (i := 197) (by decide +kernel))⟩, by decide +kernel⟩
theorem pRX7_19 : ce_PF RX7 19 7 1 := ⟨fRX7_19, RX7, TX7, 7, tyX7 1, rfl, by decide, rfl, rfl, rfl, by decide +kernel, fun _ => ⟨rfl, rfl⟩, ce_t (i := 197) (by decide +kernel)⟩
theorem fRX7_26 : ce_FR RX7 26 7 2 := ⟨⟨RX7, TX7, 7, rfl, by decide, rfl, Or.inl (ce_t (i := 198) (by decide +kernel))⟩, by decide +kernel⟩
theorem pRX7_26 : ce_PF RX7 26 7 2 := ⟨fRX7_26, RX7, TX7, 7, tyX7 2, rfl, by decide, rfl, rfl, rfl, by decide +kernel, fun _ => ⟨rfl, rfl⟩, ce_t (i := 198) (by decide +kernel)⟩
theorem fRX7_33 : ce_FR RX7 33 7 3 := ⟨⟨RX7, TX7, 7, rfl, by decide, rfl, Or.inl (ce_t (i := 199) (by decide +kernel))⟩, by decide +kernel⟩
theorem pRX7_33 : ce_PF RX7 33 7 3 := ⟨fRX7_33, RX7, TX7, 7, tyX7 3, rfl, by decide, rfl, rfl, rfl, by decide +kernel, fun _ => ⟨rfl, rfl⟩, ce_t (i := 199) (by decide +kernel)⟩
theorem fRX7_40 : ce_FR RX7 40 7 4 := ⟨⟨RX7, TX7, 7, rfl, by decide, rfl, Or.inl (ce_t (i := 200) (by decide +kernel))⟩, by decide +kernel⟩
theorem pRX7_40 : ce_PF RX7 40 7 4 := ⟨fRX7_40, RX7, TX7, 7, tyX7 4, rfl, by decide, rfl, rfl, rfl, by decide +kernel, fun _ => ⟨rfl, rfl⟩, ce_t (i := 200) (by decide +kernel)⟩
theorem fRX7_44 : ce_FR RX7 44 7 5 := ⟨⟨RX7, TX7, 7, rfl, by decide, rfl, Or.inl (ce_t (i := 201) (by decide +kernel))⟩, by decide +kernel⟩
theorem pRX7_44 : ce_PF RX7 44 7 5 := ⟨fRX7_44, RX7, TX7, 7, tyX7 5, rfl, by decide, rfl, rfl, rfl, by decide +kernel, fun _ => ⟨rfl, rfl⟩, ce_t (i := 201) (by decide +kernel)⟩
theorem fRX7_48 : ce_FR RX7 48 7 6 := ⟨⟨RX7, TX7, 7, rfl, by decide, rfl, Or.inl (ce_t (i := 202) (by decide +kernel))⟩, by decide +kernel⟩
theorem pRX7_48 : ce_PF RX7 48 7 6 := ⟨fRX7_48, RX7, TX7, 7, tyX7 6, rfl, by decide, rfl, rfl, rfl, by decide +kernel, fun _ => ⟨rfl, rfl⟩, ce_t (i := 202) (by decide +kernel)⟩
theorem fRX8_41 : ce_FI RX8 41 8 0 := ⟨⟨RX8, TX8, 15, rfl, by decide, rfl, Or.inl (ce_t (i := 937) (by decide +kernel))⟩, by decide +kernel⟩
theorem pRX8_41 : ce_PI RX8 41 8 0 .int := ⟨fRX8_41, _, rfl, rfl, by decide +kernel⟩
theorem fRX8_7 : ce_FR RX8 7 8 1 := ⟨⟨RX8, TX8, 15, rfl, by decide, rfl, Or.inl (ce_t (i := 938) (by decide +kernel))⟩, by decide +kernel⟩
theorem pRX8_7 : ce_PF RX8 7 8 1 := ⟨fRX8_7, RX8, TX8, 15, tyX8 1, rfl, by decide, rfl, rfl, rfl, by decide +kernel, fun _ => ⟨rfl, rfl⟩, ce_t (i := 938) (by decide +kernel)⟩
theorem fRX8_112 : ce_FI RX8 112 8 2 := ⟨⟨RX8, TX8, 15, rfl, by decide, rfl, Or.inl (ce_t (i := 939) (by decide +kernel))⟩, by decide +kernel⟩
theorem pRX8_112 : ce_PI RX8 112 8 2 .int := ⟨fRX8_112, _, rfl, rfl, by decide +kernel⟩
theorem fRX8_119 : ce_FI RX8 119 8 3 := ⟨⟨RX8, TX8, 15, rfl, by decide, rfl, Or.inl (ce_t (i := 940) (by decide +kernel))⟩, by decide +kernel⟩
theorem pRX8_119 : ce_PI RX8 119 8 3 .int := ⟨fRX8_119, _, rfl, rfl, by decide +kernel⟩
theorem fRX8_122 : ce_FI RX8 122 8 4 := ⟨⟨RX8, TX8, 15, rfl, by decide, rfl, Or.inl (ce_t (i := 941) (by decide +kernel))⟩, by decide +kernel⟩
theorem pRX8_122 : ce_PI RX8 122 8 4 .boolean := ⟨fRX8_122, _, rfl, rfl, by decide +kernel⟩
theorem fRX8_13 : ce_FR RX8 13 8 5 := ⟨⟨RX8, TX8, 15, rfl, by decide, rfl, Or.inl (ce_t (i := 942) (by decide +kernel))⟩, by decide +kernel⟩
theorem pRX8_13 : ce_PF RX8 13 8 5 := ⟨fRX8_13, RX8, TX8, 15, tyX8 5, rfl, by decide, rfl, rfl, rfl, by decide +kernel, fun _ => ⟨rfl, rfl⟩, ce_t (i := 942) (by decide +kernel)⟩
theorem fRX8_16 : ce_FR RX8 16 8 6 := ⟨⟨RX8, TX8, 15, rfl, by decide, rfl, Or.inl (ce_t (i := 943) (by decide +kernel))⟩, by decide +kernel⟩
theorem pRX8_16 : ce_PF RX8 16 8 6 := ⟨fRX8_16, RX8, TX8, 15, tyX8 6, rfl, by decide, rfl, rfl, rfl, by decide +kernel, fun _ => ⟨rfl, rfl⟩, ce_t (i := 943) (by decide +kernel)⟩
theorem fRX8_19 : ce_FR RX8 19 8 7 := ⟨⟨RX8, TX8, 15, rfl, by decide, rfl, Or.inl (ce_t (i := 944) (by decide +kernel))⟩, by decide +kernel⟩
theorem pRX8_19 : ce_PF RX8 19 8 7 := ⟨fRX8_19, RX8, TX8, 15, tyX8 7, rfl, by decide, rfl, rfl, rfl, by decide +kernel, fun _ => ⟨rfl, rfl⟩, ce_t (i := 944) (by decide +kernel)⟩
theorem fRX8_22 : ce_FR RX8 22 8 8 := ⟨⟨RX8, TX8, 15, rfl, by decide, rfl, Or.inl (ce_t (i := 945) (by decide +kernel))⟩, by decide +kernel⟩
theorem pRX8_22 : ce_PF RX8 22 8 8 := ⟨fRX8_22, RX8, TX8, 15, tyX8 8, rfl, by decide, rfl, rfl, rfl, by decide +kernel, fun _ => ⟨rfl, rfl⟩, ce_t (i := 945) (by decide +kernel)⟩
theorem fRX8_47 : ce_FI RX8 47 8 9 := ⟨⟨RX8, TX8, 15, rfl, by decide, rfl, Or.inl (ce_t (i := 946) (by decide +kernel))⟩, by decide +kernel⟩
theorem pRX8_47 : ce_PI RX8 47 8 9 .int := ⟨fRX8_47, _, rfl, rfl, by decide +kernel⟩
theorem fRX8_25 : ce_FR RX8 25 8 10 := ⟨⟨RX8, TX8, 15, rfl, by decide, rfl, Or.inl (ce_t (i := 947) (by decide +kernel))⟩, by decide +kernel⟩
theorem pRX8_25 : ce_PF RX8 25 8 10 := ⟨fRX8_25, RX8, TX8, 15, tyX8 10, rfl, by decide, rfl, rfl, rfl, by decide +kernel, fun _ => ⟨rfl, rfl⟩, ce_t (i := 947) (by decide +kernel)⟩
theorem fRX8_28 : ce_FR RX8 28 8 11 := ⟨⟨RX8, TX8, 15, rfl, by decide, rfl, Or.inl (ce_t (i := 948) (by decide +kernel))⟩, by decide +kernel⟩
theorem pRX8_28 : ce_PF RX8 28 8 11 := ⟨fRX8_28, RX8, TX8, 15, tyX8 11, rfl, by decide, rfl, rfl, rfl, by decide +kernel, fun _ => ⟨rfl, rfl⟩, ce_t (i := 948) (by decide +kernel)⟩
theorem fRX8_32 : ce_FR RX8 32 8 12 := ⟨⟨RX8, TX8, 15, rfl, by decide, rfl, Or.inl (ce_t (i := 949) (by decide +kernel))⟩, by decide +kernel⟩
theorem pRX8_32 : ce_PF RX8 32 8 12 := ⟨fRX8_32, RX8, TX8, 15, tyX8 12, rfl, by decide, rfl, rfl, rfl, by decide +kernel, fun _ => ⟨rfl, rfl⟩, ce_t (i := 949) (by decide +kernel)⟩
theorem fRX8_35 : ce_FR RX8 35 8 13 := ⟨⟨RX8, TX8, 15, rfl, by decide, rfl, Or.inl (ce_t (i := 950) (by decide +kernel))⟩, by decide +kernel⟩
theorem pRX8_35 : ce_PF RX8 35 8 13 := ⟨fRX8_35, RX8, TX8, 15, tyX8 13, rfl, by decide, rfl, rfl, rfl, by decide +kernel, fun _ => ⟨rfl, rfl⟩, ce_t (i := 950) (by decide +kernel)⟩
theorem fRX8_38 : ce_FR RX8 38 8 14 := ⟨⟨RX8, TX8, 15, rfl, by decide, rfl, Or.inl (ce_t (i := 951) (by decide +kernel))⟩, by decide +kernel⟩
theorem pRX8_38 : ce_PF RX8 38 8 14 := ⟨fRX8_38, RX8, TX8, 15, tyX8 14, rfl, by decide, rfl, rfl, rfl, by decide +kernel, fun _ => ⟨rfl, rfl⟩, ce_t (i := 951) (by decide +kernel)⟩
theorem wn_X7 : Cond.initialized RX7 ∈ lw_tbl := ce_t (i := 1) (by decide +kernel)
theorem wn_X0 : Cond.initialized RX0 ∈ lw_tbl := ce_t (i := 2) (by decide +kernel)
theorem wn_X5 : Cond.initialized RX5 ∈ lw_tbl := ce_t (i := 3) (by decide +kernel)
theorem wn_X3 : Cond.initialized RX3 ∈ lw_tbl := ce_t (i := 4) (by decide +kernel)
theorem wn_X6 : Cond.initialized RX6 ∈ lw_tbl := ce_t (i := 5) (by decide +kernel)
theorem wn_X1 : Cond.initialized RX1 ∈ lw_tbl := ce_t (i := 6) (by decide +kernel)
theorem wn_X4 : Cond.initialized RX4 ∈ lw_tbl := ce_t (i := 7) (by decide +kernel)
theorem wn_X2 : Cond.initialized RX2 ∈ lw_tbl := ce_t (i := 8) (by decide +kernel)
theorem wn_X8 : Cond.initialized RX8 ∈ lw_tbl := ce_t (i := 9) (by decide +kernel)
theorem wn_Exception : Cond.initialized "java/lang/Exception" ∈ lw_tbl := ce_t (i := 11) (by decide +kernel)
theorem wn_RuntimeException : Cond.initialized "java/lang/RuntimeException" ∈ lw_tbl := ce_t (i := 12) (by decide +kernel)
theorem wn_IndexOutOfBoundsException : Cond.initialized "java/lang/IndexOutOfBoundsException" ∈ lw_tbl := ce_t (i := 13) (by decide +kernel)
theorem wn_IllegalArgumentException : Cond.initialized "java/lang/IllegalArgumentException" ∈ lw_tbl := ce_t (i := 14) (by decide +kernel)
theorem wn_IllegalStateException : Cond.initialized "java/lang/IllegalStateException" ∈ lw_tbl := ce_t (i := 15) (by decide +kernel)
theorem kRL_8 : Cond.classLink RL 8 "CellarClub" ∈ lw_tbl := ce_t (i := 19) (by decide +kernel)
theorem wi_X7 : Cond.instantiable RX7 7 ∈ lw_tbl := ce_t (i := 20) (by decide +kernel)
theorem kRX7_7 : Cond.classLink RX7 7 "CellarClub$Club" ∈ lw_tbl := ce_t (i := 27) (by decide +kernel)
theorem wi_X0 : Cond.instantiable RX0 14 ∈ lw_tbl := ce_t (i := 28) (by decide +kernel)
theorem kRX0_33 : Cond.classLink RX0 33 "CellarClub$Table" ∈ lw_tbl := ce_t (i := 33) (by decide +kernel)
theorem wi_X5 : Cond.instantiable RX5 1 ∈ lw_tbl := ce_t (i := 34) (by decide +kernel)
theorem wa_int : Cond.arrayClass .int ∈ lw_tbl := ce_t (i := 43) (by decide +kernel)
theorem kRX0_49 : Cond.classLink RX0 49 "CellarClub$Rack" ∈ lw_tbl := ce_t (i := 44) (by decide +kernel)
theorem wi_X3 : Cond.instantiable RX3 4 ∈ lw_tbl := ce_t (i := 45) (by decide +kernel)
theorem kRX7_16 : Cond.classLink RX7 16 "CellarClub$Text" ∈ lw_tbl := ce_t (i := 126) (by decide +kernel)
theorem wi_X6 : Cond.instantiable RX6 5 ∈ lw_tbl := ce_t (i := 127) (by decide +kernel)
theorem kRX6_15 : Cond.classLink RX6 15 "CellarClub$Club" ∈ lw_tbl := ce_t (i := 132) (by decide +kernel)
theorem wa_char : Cond.arrayClass .char ∈ lw_tbl := ce_t (i := 151) (by decide +kernel)
theorem kRX7_23 : Cond.classLink RX7 23 "CellarClub$History" ∈ lw_tbl := ce_t (i := 152) (by decide +kernel)
theorem wi_X1 : Cond.instantiable RX1 2 ∈ lw_tbl := ce_t (i := 153) (by decide +kernel)
theorem kRX1_9 : Cond.classLink RX1 9 "CellarClub$Club" ∈ lw_tbl := ce_t (i := 158) (by decide +kernel)
theorem kRX7_30 : Cond.classLink RX7 30 "CellarClub$Rehearsal" ∈ lw_tbl := ce_t (i := 169) (by decide +kernel)
theorem wi_X4 : Cond.instantiable RX4 1 ∈ lw_tbl := ce_t (i := 170) (by decide +kernel)
theorem kRX4_9 : Cond.classLink RX4 9 "CellarClub$Club" ∈ lw_tbl := ce_t (i := 175) (by decide +kernel)
theorem kRX7_37 : Cond.classLink RX7 37 "CellarClub$Packing" ∈ lw_tbl := ce_t (i := 182) (by decide +kernel)
theorem wi_X2 : Cond.instantiable RX2 2 ∈ lw_tbl := ce_t (i := 183) (by decide +kernel)
theorem wa_boolean : Cond.arrayClass .boolean ∈ lw_tbl := ce_t (i := 195) (by decide +kernel)
theorem kRX6_40 : Cond.constant RX6 40 (-99999 : Int32) ∈ lw_tbl := ce_t (i := 269) (by decide +kernel)
theorem kRX3_25 : Cond.constant RX3 25 (-99999 : Int32) ∈ lw_tbl := ce_t (i := 290) (by decide +kernel)
theorem kRJ6_265 : Cond.constant RJ6 265 (1431655765 : Int32) ∈ lw_tbl := ce_t (i := 335) (by decide +kernel)
theorem kRJ6_266 : Cond.constant RJ6 266 (858993459 : Int32) ∈ lw_tbl := ce_t (i := 336) (by decide +kernel)
theorem kRJ6_267 : Cond.constant RJ6 267 (252645135 : Int32) ∈ lw_tbl := ce_t (i := 337) (by decide +kernel)
theorem kRL_13 : Cond.classLink RL 13 "java/lang/IllegalArgumentException" ∈ lw_tbl := ce_t (i := 342) (by decide +kernel)
theorem kRL_15 : Cond.classLink RL 15 "java/lang/IllegalStateException" ∈ lw_tbl := ce_t (i := 343) (by decide +kernel)
theorem kRX7_264 : Cond.classLink RX7 264 "java/lang/IndexOutOfBoundsException" ∈ lw_tbl := ce_t (i := 355) (by decide +kernel)
theorem wc_IndexOutOfBoundsException : Cond.castable "java/lang/IndexOutOfBoundsException" "java/lang/IndexOutOfBoundsException" ∈ lw_tbl := ce_t (i := 357) (by decide +kernel)
theorem wa_byte : Cond.arrayClass .byte ∈ lw_tbl := ce_t (i := 422) (by decide +kernel)
theorem kRX7_271 : Cond.classLink RX7 271 "java/lang/IllegalArgumentException" ∈ lw_tbl := ce_t (i := 423) (by decide +kernel)
theorem wc_IllegalArgumentException : Cond.castable "java/lang/IllegalArgumentException" "java/lang/IllegalArgumentException" ∈ lw_tbl := ce_t (i := 425) (by decide +kernel)
theorem kRX7_276 : Cond.classLink RX7 276 "java/lang/IllegalStateException" ∈ lw_tbl := ce_t (i := 439) (by decide +kernel)
theorem wc_IllegalStateException : Cond.castable "java/lang/IllegalStateException" "java/lang/IllegalStateException" ∈ lw_tbl := ce_t (i := 441) (by decide +kernel)
theorem kRX7_71 : Cond.constant RX7 71 (-99999 : Int32) ∈ lw_tbl := ce_t (i := 466) (by decide +kernel)
theorem kRL_28 : Cond.classLink RL 28 "java/lang/IndexOutOfBoundsException" ∈ lw_tbl := ce_t (i := 509) (by decide +kernel)
theorem kRX0_109 : Cond.constant RX0 109 (-99999 : Int32) ∈ lw_tbl := ce_t (i := 651) (by decide +kernel)
theorem kRX7_281 : Cond.constantLong RX7 281 (100000 : Int64) ∈ lw_tbl := ce_t (i := 847) (by decide +kernel)
theorem kRX7_242 : Cond.constantLong RX7 242 (6364136223846793005 : Int64) ∈ lw_tbl := ce_t (i := 902) (by decide +kernel)
theorem kRX7_244 : Cond.constantLong RX7 244 (1442695040888963407 : Int64) ∈ lw_tbl := ce_t (i := 903) (by decide +kernel)
theorem kRL_101 : Cond.classLink RL 101 "CellarClubModel" ∈ lw_tbl := ce_t (i := 931) (by decide +kernel)
theorem wi_X8 : Cond.instantiable RX8 15 ∈ lw_tbl := ce_t (i := 932) (by decide +kernel)
theorem kRX8_106 : Cond.constantLong RX8 106 (255 : Int64) ∈ lw_tbl := ce_t (i := 991) (by decide +kernel)
theorem kRX8_65 : Cond.constant RX8 65 (-99999 : Int32) ∈ lw_tbl := ce_t (i := 1027) (by decide +kernel)
theorem kRX8_126 : Cond.constantLong RX8 126 (9 : Int64) ∈ lw_tbl := ce_t (i := 1028) (by decide +kernel)
theorem kRX8_177 : Cond.constantLong RX8 177 (3 : Int64) ∈ lw_tbl := ce_t (i := 1091) (by decide +kernel)
theorem kRX8_185 : Cond.constantLong RX8 185 (8 : Int64) ∈ lw_tbl := ce_t (i := 1103) (by decide +kernel)
theorem kRX8_190 : Cond.constantLong RX8 190 (2 : Int64) ∈ lw_tbl := ce_t (i := 1115) (by decide +kernel)
theorem kRX8_192 : Cond.constantLong RX8 192 (999 : Int64) ∈ lw_tbl := ce_t (i := 1124) (by decide +kernel)
theorem kRX8_197 : Cond.constantLong RX8 197 (99 : Int64) ∈ lw_tbl := ce_t (i := 1133) (by decide +kernel)
theorem kRX8_199 : Cond.constantLong RX8 199 (60 : Int64) ∈ lw_tbl := ce_t (i := 1134) (by decide +kernel)
theorem kRX8_201 : Cond.constantLong RX8 201 (24 : Int64) ∈ lw_tbl := ce_t (i := 1139) (by decide +kernel)
theorem kRX8_45 : Cond.constantLong RX8 45 (10 : Int64) ∈ lw_tbl := ce_t (i := 1263) (by decide +kernel)
theorem kRX8_251 : Cond.constantLong RX8 251 (100000 : Int64) ∈ lw_tbl := ce_t (i := 1268) (by decide +kernel)
theorem kRX8_256 : Cond.constantLong RX8 256 (6364136223846793005 : Int64) ∈ lw_tbl := ce_t (i := 1280) (by decide +kernel)
theorem kRX8_258 : Cond.constantLong RX8 258 (1442695040888963407 : Int64) ∈ lw_tbl := ce_t (i := 1281) (by decide +kernel)
theorem kRL_192 : Cond.constantLong RL 192 (4294967295 : Int64) ∈ lw_tbl := ce_t (i := 1294) (by decide +kernel)
theorem wa_long : Cond.arrayClass .long ∈ lw_tbl := ce_t (i := 1295) (by decide +kernel)
theorem wx_nat : Cond.native arraycopyName ∈ lw_tbl := ce_t (i := 246) (by decide +kernel)
theorem wx_stat : Cond.static arraycopyName ∈ lw_tbl := ce_t (i := 245) (by decide +kernel)
theorem wx_sys : Cond.initialized "java/lang/System" ∈ lw_tbl := ce_t (i := 17) (by decide +kernel)
theorem wx_oi : Cond.instanceMethod Lib.objectInit ∈ lw_tbl := ce_t (i := 25) (by decide +kernel)
theorem wx_oc : Cond.code Lib.objectInit ⟨#[0xb1]⟩ 1 none ∈ lw_tbl := ce_t (i := 26) (by decide +kernel)
end
