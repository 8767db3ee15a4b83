section
-- ===== PART A: goes FIRST, ahead of the names: the tables' words, and 'selects' of the private methods out of them =====
/-- a private method of a class that the tables say can be made, by its rows of tables_1 -/
def lw_okq (q : MethodName × Nat) : Prop := (q.1.cls ≠ "java/lang/invoke/MethodHandle" ∧ q.1.cls ≠ "java/lang/invoke/VarHandle") ∧ Cond.instantiable q.1.cls q.2 ∈ tables_1 ∧ Cond.privateMethod q.1 ∈ tables_1 ∧ Cond.instanceMethod q.1 ∈ tables_1
theorem lw_p0 : lw_okq (⟨"AlwaysYesterdays", "refuse", "(I)I"⟩, 12) := ⟨⟨by decide +kernel, by decide +kernel⟩, List.mem_of_getElem? (i := 16) (by decide +kernel), List.mem_of_getElem? (i := 157) (by decide +kernel), List.mem_of_getElem? (i := 158) (by decide +kernel)⟩
theorem lw_p1 : lw_okq (⟨"AlwaysYesterdays", "becomeHouse", "()I"⟩, 12) := ⟨⟨by decide +kernel, by decide +kernel⟩, List.mem_of_getElem? (i := 16) (by decide +kernel), List.mem_of_getElem? (i := 304) (by decide +kernel), List.mem_of_getElem? (i := 305) (by decide +kernel)⟩
theorem lw_p2 : lw_okq (⟨"AlwaysYesterdays", "think", "()V"⟩, 12) := ⟨⟨by decide +kernel, by decide +kernel⟩, List.mem_of_getElem? (i := 16) (by decide +kernel), List.mem_of_getElem? (i := 308) (by decide +kernel), List.mem_of_getElem? (i := 309) (by decide +kernel)⟩
theorem lw_p3 : lw_okq (⟨"AlwaysYesterdays$Letters", "sign", "(I)C"⟩, 2) := ⟨⟨by decide +kernel, by decide +kernel⟩, List.mem_of_getElem? (i := 98) (by decide +kernel), List.mem_of_getElem? (i := 323) (by decide +kernel), List.mem_of_getElem? (i := 324) (by decide +kernel)⟩
theorem lw_p4 : lw_okq (⟨"AlwaysYesterdays$Letters", "digit", "(I)I"⟩, 2) := ⟨⟨by decide +kernel, by decide +kernel⟩, List.mem_of_getElem? (i := 98) (by decide +kernel), List.mem_of_getElem? (i := 327) (by decide +kernel), List.mem_of_getElem? (i := 328) (by decide +kernel)⟩
theorem lw_p5 : lw_okq (⟨"AlwaysYesterdays$Letters", "twoDigits", "(I)I"⟩, 2) := ⟨⟨by decide +kernel, by decide +kernel⟩, List.mem_of_getElem? (i := 98) (by decide +kernel), List.mem_of_getElem? (i := 331) (by decide +kernel), List.mem_of_getElem? (i := 332) (by decide +kernel)⟩
theorem lw_p6 : lw_okq (⟨"AlwaysYesterdays$Household", "shop", "(LAlwaysYesterdays$Tally;)V"⟩, 7) := ⟨⟨by decide +kernel, by decide +kernel⟩, List.mem_of_getElem? (i := 24) (by decide +kernel), List.mem_of_getElem? (i := 357) (by decide +kernel), List.mem_of_getElem? (i := 358) (by decide +kernel)⟩
theorem lw_p7 : lw_okq (⟨"AlwaysYesterdays$Household", "bring", "(II)I"⟩, 7) := ⟨⟨by decide +kernel, by decide +kernel⟩, List.mem_of_getElem? (i := 24) (by decide +kernel), List.mem_of_getElem? (i := 361) (by decide +kernel), List.mem_of_getElem? (i := 362) (by decide +kernel)⟩
theorem lw_p8 : lw_okq (⟨"AlwaysYesterdays$Household", "feed", "(ILAlwaysYesterdays$Tally;)V"⟩, 7) := ⟨⟨by decide +kernel, by decide +kernel⟩, List.mem_of_getElem? (i := 24) (by decide +kernel), List.mem_of_getElem? (i := 370) (by decide +kernel), List.mem_of_getElem? (i := 371) (by decide +kernel)⟩
theorem lw_p9 : lw_okq (⟨"AlwaysYesterdays$Household", "nextAge", "(I)I"⟩, 7) := ⟨⟨by decide +kernel, by decide +kernel⟩, List.mem_of_getElem? (i := 24) (by decide +kernel), List.mem_of_getElem? (i := 374) (by decide +kernel), List.mem_of_getElem? (i := 375) (by decide +kernel)⟩
theorem lw_p10 : lw_okq (⟨"AlwaysYesterdays$Household", "inReach", "(I)I"⟩, 7) := ⟨⟨by decide +kernel, by decide +kernel⟩, List.mem_of_getElem? (i := 24) (by decide +kernel), List.mem_of_getElem? (i := 378) (by decide +kernel), List.mem_of_getElem? (i := 379) (by decide +kernel)⟩
theorem lw_p11 : lw_okq (⟨"AlwaysYesterdays", "passInMind", "(I)I"⟩, 12) := ⟨⟨by decide +kernel, by decide +kernel⟩, List.mem_of_getElem? (i := 16) (by decide +kernel), List.mem_of_getElem? (i := 447) (by decide +kernel), List.mem_of_getElem? (i := 448) (by decide +kernel)⟩
theorem lw_p12 : lw_okq (⟨"AlwaysYesterdays", "bestOfSetting", "(II)I"⟩, 12) := ⟨⟨by decide +kernel, by decide +kernel⟩, List.mem_of_getElem? (i := 16) (by decide +kernel), List.mem_of_getElem? (i := 492) (by decide +kernel), List.mem_of_getElem? (i := 493) (by decide +kernel)⟩
theorem lw_p13 : lw_okq (⟨"AlwaysYesterdays", "chanceOf", "(I)J"⟩, 12) := ⟨⟨by decide +kernel, by decide +kernel⟩, List.mem_of_getElem? (i := 16) (by decide +kernel), List.mem_of_getElem? (i := 518) (by decide +kernel), List.mem_of_getElem? (i := 519) (by decide +kernel)⟩
theorem lw_p14 : lw_okq (⟨"AlwaysYesterdays", "valueIfThereCome", "(I)I"⟩, 12) := ⟨⟨by decide +kernel, by decide +kernel⟩, List.mem_of_getElem? (i := 16) (by decide +kernel), List.mem_of_getElem? (i := 522) (by decide +kernel), List.mem_of_getElem? (i := 523) (by decide +kernel)⟩
theorem lw_p15 : lw_okq (⟨"AlwaysYesterdays", "shareOne", "(I)V"⟩, 12) := ⟨⟨by decide +kernel, by decide +kernel⟩, List.mem_of_getElem? (i := 16) (by decide +kernel), List.mem_of_getElem? (i := 548) (by decide +kernel), List.mem_of_getElem? (i := 549) (by decide +kernel)⟩
def lw_privs_1 : List (MethodName × Nat) := [(⟨"AlwaysYesterdays", "refuse", "(I)I"⟩, 12), (⟨"AlwaysYesterdays", "becomeHouse", "()I"⟩, 12), (⟨"AlwaysYesterdays", "think", "()V"⟩, 12), (⟨"AlwaysYesterdays$Letters", "sign", "(I)C"⟩, 2), (⟨"AlwaysYesterdays$Letters", "digit", "(I)I"⟩, 2), (⟨"AlwaysYesterdays$Letters", "twoDigits", "(I)I"⟩, 2), (⟨"AlwaysYesterdays$Household", "shop", "(LAlwaysYesterdays$Tally;)V"⟩, 7), (⟨"AlwaysYesterdays$Household", "bring", "(II)I"⟩, 7), (⟨"AlwaysYesterdays$Household", "feed", "(ILAlwaysYesterdays$Tally;)V"⟩, 7), (⟨"AlwaysYesterdays$Household", "nextAge", "(I)I"⟩, 7), (⟨"AlwaysYesterdays$Household", "inReach", "(I)I"⟩, 7), (⟨"AlwaysYesterdays", "passInMind", "(I)I"⟩, 12), (⟨"AlwaysYesterdays", "bestOfSetting", "(II)I"⟩, 12), (⟨"AlwaysYesterdays", "chanceOf", "(I)J"⟩, 12), (⟨"AlwaysYesterdays", "valueIfThereCome", "(I)I"⟩, 12), (⟨"AlwaysYesterdays", "shareOne", "(I)V"⟩, 12)]
theorem lw_r1 : ∀ q ∈ lw_privs_1, lw_okq q := List.forall_mem_cons.mpr ⟨lw_p0, List.forall_mem_cons.mpr ⟨lw_p1, List.forall_mem_cons.mpr ⟨lw_p2, List.forall_mem_cons.mpr ⟨lw_p3, List.forall_mem_cons.mpr ⟨lw_p4, List.forall_mem_cons.mpr ⟨lw_p5, List.forall_mem_cons.mpr ⟨lw_p6, List.forall_mem_cons.mpr ⟨lw_p7, List.forall_mem_cons.mpr ⟨lw_p8, List.forall_mem_cons.mpr ⟨lw_p9, List.forall_mem_cons.mpr ⟨lw_p10, List.forall_mem_cons.mpr ⟨lw_p11, List.forall_mem_cons.mpr ⟨lw_p12, List.forall_mem_cons.mpr ⟨lw_p13, List.forall_mem_cons.mpr ⟨lw_p14, List.forall_mem_cons.mpr ⟨lw_p15, fun _ h => absurd h List.not_mem_nil⟩⟩⟩⟩⟩⟩⟩⟩⟩⟩⟩⟩⟩⟩⟩⟩
theorem lw_p16 : lw_okq (⟨"AlwaysYesterdays", "openBottle", "(III)V"⟩, 12) := ⟨⟨by decide +kernel, by decide +kernel⟩, List.mem_of_getElem? (i := 16) (by decide +kernel), List.mem_of_getElem? (i := 562) (by decide +kernel), List.mem_of_getElem? (i := 563) (by decide +kernel)⟩
theorem lw_p17 : lw_okq (⟨"AlwaysYesterdays", "throwsAsInRow", "(I)Z"⟩, 12) := ⟨⟨by decide +kernel, by decide +kernel⟩, List.mem_of_getElem? (i := 16) (by decide +kernel), List.mem_of_getElem? (i := 574) (by decide +kernel), List.mem_of_getElem? (i := 575) (by decide +kernel)⟩
theorem lw_p18 : lw_okq (⟨"AlwaysYesterdays", "firstNotEatenToday", "()I"⟩, 12) := ⟨⟨by decide +kernel, by decide +kernel⟩, List.mem_of_getElem? (i := 16) (by decide +kernel), List.mem_of_getElem? (i := 582) (by decide +kernel), List.mem_of_getElem? (i := 583) (by decide +kernel)⟩
theorem lw_p19 : lw_okq (⟨"AlwaysYesterdaysModel", "no", "(I)I"⟩, 28) := ⟨⟨by decide +kernel, by decide +kernel⟩, List.mem_of_getElem? (i := 612) (by decide +kernel), List.mem_of_getElem? (i := 714) (by decide +kernel), List.mem_of_getElem? (i := 715) (by decide +kernel)⟩
theorem lw_p20 : lw_okq (⟨"AlwaysYesterdaysModel", "read", "()I"⟩, 28) := ⟨⟨by decide +kernel, by decide +kernel⟩, List.mem_of_getElem? (i := 612) (by decide +kernel), List.mem_of_getElem? (i := 726) (by decide +kernel), List.mem_of_getElem? (i := 727) (by decide +kernel)⟩
theorem lw_p21 : lw_okq (⟨"AlwaysYesterdaysModel", "statement", "()V"⟩, 28) := ⟨⟨by decide +kernel, by decide +kernel⟩, List.mem_of_getElem? (i := 612) (by decide +kernel), List.mem_of_getElem? (i := 730) (by decide +kernel), List.mem_of_getElem? (i := 731) (by decide +kernel)⟩
theorem lw_p22 : lw_okq (⟨"AlwaysYesterdaysModel", "oneOf", "([C)I"⟩, 28) := ⟨⟨by decide +kernel, by decide +kernel⟩, List.mem_of_getElem? (i := 612) (by decide +kernel), List.mem_of_getElem? (i := 734) (by decide +kernel), List.mem_of_getElem? (i := 735) (by decide +kernel)⟩
theorem lw_p23 : lw_okq (⟨"AlwaysYesterdaysModel", "figures", "(II)I"⟩, 28) := ⟨⟨by decide +kernel, by decide +kernel⟩, List.mem_of_getElem? (i := 612) (by decide +kernel), List.mem_of_getElem? (i := 738) (by decide +kernel), List.mem_of_getElem? (i := 739) (by decide +kernel)⟩
theorem lw_p24 : lw_okq (⟨"AlwaysYesterdaysModel", "isAsItMustBe", "()Z"⟩, 28) := ⟨⟨by decide +kernel, by decide +kernel⟩, List.mem_of_getElem? (i := 612) (by decide +kernel), List.mem_of_getElem? (i := 742) (by decide +kernel), List.mem_of_getElem? (i := 743) (by decide +kernel)⟩
theorem lw_p25 : lw_okq (⟨"AlwaysYesterdaysModel", "take", "()V"⟩, 28) := ⟨⟨by decide +kernel, by decide +kernel⟩, List.mem_of_getElem? (i := 612) (by decide +kernel), List.mem_of_getElem? (i := 746) (by decide +kernel), List.mem_of_getElem? (i := 747) (by decide +kernel)⟩
theorem lw_p26 : lw_okq (⟨"AlwaysYesterdaysModel", "asTold", "([I)V"⟩, 28) := ⟨⟨by decide +kernel, by decide +kernel⟩, List.mem_of_getElem? (i := 612) (by decide +kernel), List.mem_of_getElem? (i := 750) (by decide +kernel), List.mem_of_getElem? (i := 751) (by decide +kernel)⟩
theorem lw_p27 : lw_okq (⟨"AlwaysYesterdaysModel", "day", "([II)V"⟩, 28) := ⟨⟨by decide +kernel, by decide +kernel⟩, List.mem_of_getElem? (i := 612) (by decide +kernel), List.mem_of_getElem? (i := 754) (by decide +kernel), List.mem_of_getElem? (i := 755) (by decide +kernel)⟩
theorem lw_p28 : lw_okq (⟨"AlwaysYesterdaysModel", "come", "([III)I"⟩, 28) := ⟨⟨by decide +kernel, by decide +kernel⟩, List.mem_of_getElem? (i := 612) (by decide +kernel), List.mem_of_getElem? (i := 758) (by decide +kernel), List.mem_of_getElem? (i := 759) (by decide +kernel)⟩
theorem lw_p29 : lw_okq (⟨"AlwaysYesterdaysModel", "isNoEater", "(I)Z"⟩, 28) := ⟨⟨by decide +kernel, by decide +kernel⟩, List.mem_of_getElem? (i := 612) (by decide +kernel), List.mem_of_getElem? (i := 774) (by decide +kernel), List.mem_of_getElem? (i := 775) (by decide +kernel)⟩
theorem lw_p30 : lw_okq (⟨"AlwaysYesterdaysModel", "change", "(III)I"⟩, 28) := ⟨⟨by decide +kernel, by decide +kernel⟩, List.mem_of_getElem? (i := 612) (by decide +kernel), List.mem_of_getElem? (i := 785) (by decide +kernel), List.mem_of_getElem? (i := 786) (by decide +kernel)⟩
theorem lw_p31 : lw_okq (⟨"AlwaysYesterdaysModel", "isWrong", "(I)I"⟩, 28) := ⟨⟨by decide +kernel, by decide +kernel⟩, List.mem_of_getElem? (i := 612) (by decide +kernel), List.mem_of_getElem? (i := 810) (by decide +kernel), List.mem_of_getElem? (i := 811) (by decide +kernel)⟩
def lw_privs_2 : List (MethodName × Nat) := [(⟨"AlwaysYesterdays", "openBottle", "(III)V"⟩, 12), (⟨"AlwaysYesterdays", "throwsAsInRow", "(I)Z"⟩, 12), (⟨"AlwaysYesterdays", "firstNotEatenToday", "()I"⟩, 12), (⟨"AlwaysYesterdaysModel", "no", "(I)I"⟩, 28), (⟨"AlwaysYesterdaysModel", "read", "()I"⟩, 28), (⟨"AlwaysYesterdaysModel", "statement", "()V"⟩, 28), (⟨"AlwaysYesterdaysModel", "oneOf", "([C)I"⟩, 28), (⟨"AlwaysYesterdaysModel", "figures", "(II)I"⟩, 28), (⟨"AlwaysYesterdaysModel", "isAsItMustBe", "()Z"⟩, 28), (⟨"AlwaysYesterdaysModel", "take", "()V"⟩, 28), (⟨"AlwaysYesterdaysModel", "asTold", "([I)V"⟩, 28), (⟨"AlwaysYesterdaysModel", "day", "([II)V"⟩, 28), (⟨"AlwaysYesterdaysModel", "come", "([III)I"⟩, 28), (⟨"AlwaysYesterdaysModel", "isNoEater", "(I)Z"⟩, 28), (⟨"AlwaysYesterdaysModel", "change", "(III)I"⟩, 28), (⟨"AlwaysYesterdaysModel", "isWrong", "(I)I"⟩, 28)]
theorem lw_r2 : ∀ q ∈ lw_privs_2, lw_okq q := List.forall_mem_cons.mpr ⟨lw_p16, List.forall_mem_cons.mpr ⟨lw_p17, List.forall_mem_cons.mpr ⟨lw_p18, List.forall_mem_cons.mpr ⟨lw_p19, List.forall_mem_cons.mpr ⟨lw_p20, List.forall_mem_cons.mpr ⟨lw_p21, List.forall_mem_cons.mpr ⟨lw_p22, List.forall_mem_cons.mpr ⟨lw_p23, List.forall_mem_cons.mpr ⟨lw_p24, List.forall_mem_cons.mpr ⟨lw_p25, List.forall_mem_cons.mpr ⟨lw_p26, List.forall_mem_cons.mpr ⟨lw_p27, List.forall_mem_cons.mpr ⟨lw_p28, List.forall_mem_cons.mpr ⟨lw_p29, List.forall_mem_cons.mpr ⟨lw_p30, List.forall_mem_cons.mpr ⟨lw_p31, fun _ h => absurd h List.not_mem_nil⟩⟩⟩⟩⟩⟩⟩⟩⟩⟩⟩⟩⟩⟩⟩⟩
theorem lw_p32 : lw_okq (⟨"AlwaysYesterdaysModel", "goOn", "(II)V"⟩, 28) := ⟨⟨by decide +kernel, by decide +kernel⟩, List.mem_of_getElem? (i := 612) (by decide +kernel), List.mem_of_getElem? (i := 814) (by decide +kernel), List.mem_of_getElem? (i := 815) (by decide +kernel)⟩
theorem lw_p33 : lw_okq (⟨"AlwaysYesterdaysModel", "valueOf", "(I)I"⟩, 28) := ⟨⟨by decide +kernel, by decide +kernel⟩, List.mem_of_getElem? (i := 612) (by decide +kernel), List.mem_of_getElem? (i := 833) (by decide +kernel), List.mem_of_getElem? (i := 834) (by decide +kernel)⟩
theorem lw_p34 : lw_okq (⟨"AlwaysYesterdaysModel", "openDays", "()I"⟩, 28) := ⟨⟨by decide +kernel, by decide +kernel⟩, List.mem_of_getElem? (i := 612) (by decide +kernel), List.mem_of_getElem? (i := 841) (by decide +kernel), List.mem_of_getElem? (i := 842) (by decide +kernel)⟩
theorem lw_p35 : lw_okq (⟨"AlwaysYesterdaysModel", "bestAt", "(III)I"⟩, 28) := ⟨⟨by decide +kernel, by decide +kernel⟩, List.mem_of_getElem? (i := 612) (by decide +kernel), List.mem_of_getElem? (i := 849) (by decide +kernel), List.mem_of_getElem? (i := 850) (by decide +kernel)⟩
theorem lw_p36 : lw_okq (⟨"AlwaysYesterdaysModel", "shared", "(II)I"⟩, 28) := ⟨⟨by decide +kernel, by decide +kernel⟩, List.mem_of_getElem? (i := 612) (by decide +kernel), List.mem_of_getElem? (i := 888) (by decide +kernel), List.mem_of_getElem? (i := 889) (by decide +kernel)⟩
theorem lw_p37 : lw_okq (⟨"AlwaysYesterdaysModel", "opened", "(III)I"⟩, 28) := ⟨⟨by decide +kernel, by decide +kernel⟩, List.mem_of_getElem? (i := 612) (by decide +kernel), List.mem_of_getElem? (i := 896) (by decide +kernel), List.mem_of_getElem? (i := 897) (by decide +kernel)⟩
def lw_privs_3 : List (MethodName × Nat) := [(⟨"AlwaysYesterdaysModel", "goOn", "(II)V"⟩, 28), (⟨"AlwaysYesterdaysModel", "valueOf", "(I)I"⟩, 28), (⟨"AlwaysYesterdaysModel", "openDays", "()I"⟩, 28), (⟨"AlwaysYesterdaysModel", "bestAt", "(III)I"⟩, 28), (⟨"AlwaysYesterdaysModel", "shared", "(II)I"⟩, 28), (⟨"AlwaysYesterdaysModel", "opened", "(III)I"⟩, 28)]
theorem lw_r3 : ∀ q ∈ lw_privs_3, lw_okq q := List.forall_mem_cons.mpr ⟨lw_p32, List.forall_mem_cons.mpr ⟨lw_p33, List.forall_mem_cons.mpr ⟨lw_p34, List.forall_mem_cons.mpr ⟨lw_p35, List.forall_mem_cons.mpr ⟨lw_p36, List.forall_mem_cons.mpr ⟨lw_p37, fun _ h => absurd h List.not_mem_nil⟩⟩⟩⟩⟩⟩
def lw_privs : List (MethodName × Nat) := lw_privs_1 ++ (lw_privs_2 ++ (lw_privs_3))
def lw_tbl : List Cond := k2_sels lw_privs ++ tables_1
theorem lw_privs_ok : ∀ q ∈ lw_privs, lw_okq q := by
  show ∀ q ∈ lw_privs_1 ++ (lw_privs_2 ++ (lw_privs_3)), lw_okq q
  exact List.forall_mem_append.mpr ⟨lw_r1, List.forall_mem_append.mpr ⟨lw_r2, lw_r3⟩⟩
end
section
/-! ===== BEGIN words of one list among another's, by their places ===== -/
theorem goodIn_r {big : List Cond} (ws : List Cond) (ps : List Nat) (hp : ws = ps.filterMap (fun i => big[i]?)) (h : ws.all goodWord = true) : GoodIn big ws := by
  intro w hw
  have h1 := List.all_eq_true.mp h w hw
  rw [hp] at hw
  obtain ⟨i, -, hi⟩ := List.mem_filterMap.mp hw
  have hm : w ∈ big := by first | exact List.mem_of_getElem? hi | exact List.getElem?_mem hi
  exact ⟨hm, good_of_word h1⟩
theorem goodIn_app {big a b : List Cond} (ha : GoodIn big a) (hb : GoodIn big b) : GoodIn big (a ++ b) := fun w h => (List.mem_append.mp h).elim (ha w) (hb w)
theorem goodIn_ca {big a b : List Cond} {c : Cond} (ha : GoodIn big (c :: a)) (hb : GoodIn big b) : GoodIn big (c :: (a ++ b)) := fun w h => (List.mem_cons.mp h).elim (fun e => ha w (List.mem_cons.mpr (Or.inl e))) (fun h => (List.mem_append.mp h).elim (fun h => ha w (List.mem_cons.mpr (Or.inr h))) (hb w))
theorem goodIn_sub {big ws : List Cond} (hm : ∀ w ∈ ws, w ∈ big) (h : ws.all goodWord = true) : GoodIn big ws := fun w hw => ⟨hm w hw, good_of_word (List.all_eq_true.mp h w hw)⟩
/-! ===== END ===== -/
def RX0 : String := "AlwaysYesterdays$Choice"
def TX0 : u_T := fun k => match k with
  | 0 => ("AlwaysYesterdays$Choice", "best", "I", false)
  | _ => ("AlwaysYesterdays$Choice", "bestValue", "I", false)
def tyX0 : Nat → FieldType := fun k => match k with
  | 0 => .int
  | _ => .int
abbrev wsX00 : List Cond := u_ws RX0 TX0 2
theorem nmX0 : ∀ a, a < 2 → ∀ b, b < 2 → a ≠ b → (TX0 a).2.1 ≠ (TX0 b).2.1 := by decide +kernel
theorem tyX0_ok : ∀ k, k < 2 → parseFieldDescriptor (TX0 k).2.2.1 = some (tyX0 k) := by decide +kernel
abbrev cX0_init : ByteArray := prog_2_method_1_code
def yX0_init : MethodName := ⟨RX0, "<init>", "()V"⟩
abbrev cX0_clear : ByteArray := prog_2_method_2_code
def yX0_clear : MethodName := ⟨RX0, "clear", "()V"⟩
abbrev cX0_offer : ByteArray := prog_2_method_3_code
def yX0_offer : MethodName := ⟨RX0, "offer", "(II)V"⟩
def RX1 : String := "AlwaysYesterdays$Household"
def TX1 : u_T := fun k => match k with
  | 0 => ("AlwaysYesterdays$Household", "slices", "[I", true)
  | 1 => ("AlwaysYesterdays$Household", "opens", "[I", true)
  | 2 => ("AlwaysYesterdays$Household", "settings", "[I", true)
  | 3 => ("AlwaysYesterdays$Household", "eaters", "[[I", true)
  | 4 => ("AlwaysYesterdays$Household", "eaterCount", "I", false)
  | 5 => ("AlwaysYesterdays$Household", "day", "I", false)
  | _ => ("AlwaysYesterdays$Household", "fewer", "I", false)
def tyX1 : Nat → FieldType := fun k => match k with
  | 0 => .array .int
  | 1 => .array .int
  | 2 => .array .int
  | 3 => .array (.array .int)
  | 4 => .int
  | 5 => .int
  | _ => .int
abbrev wsX10 : List Cond := u_ws RX1 TX1 7
theorem nmX1 : ∀ a, a < 7 → ∀ b, b < 7 → a ≠ b → (TX1 a).2.1 ≠ (TX1 b).2.1 := by decide +kernel
theorem tyX1_ok : ∀ k, k < 7 → parseFieldDescriptor (TX1 k).2.2.1 = some (tyX1 k) := by decide +kernel
abbrev cX1_init : ByteArray := prog_3_method_1_code
def yX1_init : MethodName := ⟨RX1, "<init>", "()V"⟩
abbrev cX1_become : ByteArray := prog_3_method_2_code
def yX1_become : MethodName := ⟨RX1, "become", "(LAlwaysYesterdays$Household;)V"⟩
abbrev cX1_has : ByteArray := prog_3_method_3_code
def yX1_has : MethodName := ⟨RX1, "has", "(I)Z"⟩
abbrev cX1_allSlices : ByteArray := prog_3_method_4_code
def yX1_allSlices : MethodName := ⟨RX1, "allSlices", "()I"⟩
abbrev cX1_openDays : ByteArray := prog_3_method_5_code
def yX1_openDays : MethodName := ⟨RX1, "openDays", "()I"⟩
abbrev cX1_allHunger : ByteArray := prog_3_method_6_code
def yX1_allHunger : MethodName := ⟨RX1, "allHunger", "()I"⟩
abbrev cX1_takeIn : ByteArray := prog_3_method_7_code
def yX1_takeIn : MethodName := ⟨RX1, "takeIn", "(IIII)Z"⟩
abbrev cX1_putSlices : ByteArray := prog_3_method_8_code
def yX1_putSlices : MethodName := ⟨RX1, "putSlices", "(II)Z"⟩
abbrev cX1_change : ByteArray := prog_3_method_9_code
def yX1_change : MethodName := ⟨RX1, "change", "(II)Z"⟩
abbrev cX1_loseOldest : ByteArray := prog_3_method_10_code
def yX1_loseOldest : MethodName := ⟨RX1, "loseOldest", "(I)V"⟩
abbrev cX1_passDay : ByteArray := prog_3_method_11_code
def yX1_passDay : MethodName := ⟨RX1, "passDay", "(LAlwaysYesterdays$Tally;)V"⟩
abbrev cX1_shop : ByteArray := prog_3_method_12_code
def yX1_shop : MethodName := ⟨RX1, "shop", "(LAlwaysYesterdays$Tally;)V"⟩
abbrev cX1_bring : ByteArray := prog_3_method_13_code
def yX1_bring : MethodName := ⟨RX1, "bring", "(II)I"⟩
abbrev cX1_feed : ByteArray := prog_3_method_14_code
def yX1_feed : MethodName := ⟨RX1, "feed", "(ILAlwaysYesterdays$Tally;)V"⟩
abbrev cX1_inReach : ByteArray := prog_3_method_15_code
def yX1_inReach : MethodName := ⟨RX1, "inReach", "(I)I"⟩
abbrev cX1_nextAge : ByteArray := prog_3_method_16_code
def yX1_nextAge : MethodName := ⟨RX1, "nextAge", "(I)I"⟩
abbrev cX1_worthTo : ByteArray := prog_3_method_17_code
def yX1_worthTo : MethodName := ⟨RX1, "worthTo", "(II)I"⟩
def RX2 : String := "AlwaysYesterdays$Letters"
def TX2 : u_T := fun k => match k with
  | 0 => ("AlwaysYesterdays$Letters", "signs", "[C", true)
  | _ => ("AlwaysYesterdays$Letters", "many", "I", false)
def tyX2 : Nat → FieldType := fun k => match k with
  | 0 => .array .char
  | _ => .int
abbrev wsX20 : List Cond := u_ws RX2 TX2 2
theorem nmX2 : ∀ a, a < 2 → ∀ b, b < 2 → a ≠ b → (TX2 a).2.1 ≠ (TX2 b).2.1 := by decide +kernel
theorem tyX2_ok : ∀ k, k < 2 → parseFieldDescriptor (TX2 k).2.2.1 = some (tyX2 k) := by decide +kernel
abbrev cX2_init : ByteArray := prog_4_method_1_code
def yX2_init : MethodName := ⟨RX2, "<init>", "()V"⟩
abbrev cX2_add : ByteArray := prog_4_method_2_code
def yX2_add : MethodName := ⟨RX2, "add", "(C)V"⟩
abbrev cX2_sign : ByteArray := prog_4_method_3_code
def yX2_sign : MethodName := ⟨RX2, "sign", "(I)C"⟩
abbrev cX2_digit : ByteArray := prog_4_method_4_code
def yX2_digit : MethodName := ⟨RX2, "digit", "(I)I"⟩
abbrev cX2_twoDigits : ByteArray := prog_4_method_5_code
def yX2_twoDigits : MethodName := ⟨RX2, "twoDigits", "(I)I"⟩
abbrev cX2_wrongPlace : ByteArray := prog_4_method_6_code
def yX2_wrongPlace : MethodName := ⟨RX2, "wrongPlace", "()I"⟩
abbrev cX2_formBehind : ByteArray := prog_4_method_7_code
def yX2_formBehind : MethodName := ⟨RX2, "formBehind", "(C)Ljava/lang/String;"⟩
abbrev cX2_isDigit : ByteArray := prog_4_method_8_code
def yX2_isDigit : MethodName := ⟨RX2, "isDigit", "(C)Z"⟩
abbrev cX2_goesOn : ByteArray := prog_4_method_9_code
def yX2_goesOn : MethodName := ⟨RX2, "goesOn", "(CC)Z"⟩
abbrev cX2_behindStatement : ByteArray := prog_4_method_10_code
def yX2_behindStatement : MethodName := ⟨RX2, "behindStatement", "(I)I"⟩
abbrev cX2_tellStatement : ByteArray := prog_4_method_11_code
def yX2_tellStatement : MethodName := ⟨RX2, "tellStatement", "(ILAlwaysYesterdays$Household;LAlwaysYesterdays$Tally;)Z"⟩
def RX3 : String := "AlwaysYesterdays$Tally"
def TX3 : u_T := fun k => match k with
  | 0 => ("AlwaysYesterdays$Tally", "counted", "[I", true)
  | 1 => ("AlwaysYesterdays$Tally", "firstAges", "[I", true)
  | _ => ("AlwaysYesterdays$Tally", "firstCount", "I", false)
def tyX3 : Nat → FieldType := fun k => match k with
  | 0 => .array .int
  | 1 => .array .int
  | _ => .int
abbrev wsX30 : List Cond := u_ws RX3 TX3 3
theorem nmX3 : ∀ a, a < 3 → ∀ b, b < 3 → a ≠ b → (TX3 a).2.1 ≠ (TX3 b).2.1 := by decide +kernel
theorem tyX3_ok : ∀ k, k < 3 → parseFieldDescriptor (TX3 k).2.2.1 = some (tyX3 k) := by decide +kernel
abbrev cX3_init : ByteArray := prog_5_method_1_code
def yX3_init : MethodName := ⟨RX3, "<init>", "()V"⟩
abbrev cX3_clear : ByteArray := prog_5_method_2_code
def yX3_clear : MethodName := ⟨RX3, "clear", "()V"⟩
abbrev cX3_addBought : ByteArray := prog_5_method_3_code
def yX3_addBought : MethodName := ⟨RX3, "addBought", "(II)V"⟩
abbrev cX3_addEaten : ByteArray := prog_5_method_4_code
def yX3_addEaten : MethodName := ⟨RX3, "addEaten", "(III)V"⟩
abbrev cX3_addLacked : ByteArray := prog_5_method_5_code
def yX3_addLacked : MethodName := ⟨RX3, "addLacked", "(II)V"⟩
abbrev cX3_addThrown : ByteArray := prog_5_method_6_code
def yX3_addThrown : MethodName := ⟨RX3, "addThrown", "(II)V"⟩
def RX4 : String := "AlwaysYesterdays"
def TX4 : u_T := fun k => match k with
  | 0 => ("AlwaysYesterdays", "here", "LAlwaysYesterdays$Household;", true)
  | 1 => ("AlwaysYesterdays", "kept", "LAlwaysYesterdays$Household;", true)
  | 2 => ("AlwaysYesterdays", "mind", "LAlwaysYesterdays$Household;", true)
  | 3 => ("AlwaysYesterdays", "tally", "LAlwaysYesterdays$Tally;", true)
  | 4 => ("AlwaysYesterdays", "choice", "LAlwaysYesterdays$Choice;", true)
  | 5 => ("AlwaysYesterdays", "letters", "LAlwaysYesterdays$Letters;", true)
  | 6 => ("AlwaysYesterdays", "numbers", "[I", true)
  | 7 => ("AlwaysYesterdays", "refusals", "[I", true)
  | 8 => ("AlwaysYesterdays", "byShares", "[I", true)
  | 9 => ("AlwaysYesterdays", "byDays", "[I", true)
  | 10 => ("AlwaysYesterdays", "numberCount", "I", false)
  | _ => ("AlwaysYesterdays", "imageTaken", "Z", false)
def tyX4 : Nat → FieldType := fun k => match k with
  | 0 => .object "AlwaysYesterdays$Household"
  | 1 => .object "AlwaysYesterdays$Household"
  | 2 => .object "AlwaysYesterdays$Household"
  | 3 => .object "AlwaysYesterdays$Tally"
  | 4 => .object "AlwaysYesterdays$Choice"
  | 5 => .object "AlwaysYesterdays$Letters"
  | 6 => .array .int
  | 7 => .array .int
  | 8 => .array .int
  | 9 => .array .int
  | 10 => .int
  | _ => .boolean
abbrev wsX40 : List Cond := u_ws RX4 TX4 12
theorem nmX4 : ∀ a, a < 12 → ∀ b, b < 12 → a ≠ b → (TX4 a).2.1 ≠ (TX4 b).2.1 := by decide +kernel
theorem tyX4_ok : ∀ k, k < 12 → parseFieldDescriptor (TX4 k).2.2.1 = some (tyX4 k) := by decide +kernel
abbrev cX4_init : ByteArray := prog_1_method_1_code
def yX4_init : MethodName := ⟨RX4, "<init>", "()V"⟩
abbrev cX4_letter : ByteArray := prog_1_method_2_code
def yX4_letter : MethodName := ⟨RX4, "letter", "(I)I"⟩
abbrev cX4_house : ByteArray := prog_1_method_3_code
def yX4_house : MethodName := ⟨RX4, "house", "()I"⟩
abbrev cX4_eater : ByteArray := prog_1_method_4_code
def yX4_eater : MethodName := ⟨RX4, "eater", "(II)I"⟩
abbrev cX4_stock : ByteArray := prog_1_method_5_code
def yX4_stock : MethodName := ⟨RX4, "stock", "(II)I"⟩
abbrev cX4_open : ByteArray := prog_1_method_6_code
def yX4_open : MethodName := ⟨RX4, "open", "(II)I"⟩
abbrev cX4_set : ByteArray := prog_1_method_7_code
def yX4_set : MethodName := ⟨RX4, "set", "(II)I"⟩
abbrev cX4_worth : ByteArray := prog_1_method_8_code
def yX4_worth : MethodName := ⟨RX4, "worth", "(II)I"⟩
abbrev cX4_dayOn : ByteArray := prog_1_method_9_code
def yX4_dayOn : MethodName := ⟨RX4, "dayOn", "()I"⟩
abbrev cX4_total : ByteArray := prog_1_method_10_code
def yX4_total : MethodName := ⟨RX4, "total", "(II)I"⟩
abbrev cX4_left : ByteArray := prog_1_method_11_code
def yX4_left : MethodName := ⟨RX4, "left", "(II)I"⟩
abbrev cX4_never : ByteArray := prog_1_method_12_code
def yX4_never : MethodName := ⟨RX4, "never", "()I"⟩
abbrev cX4_out : ByteArray := prog_1_method_13_code
def yX4_out : MethodName := ⟨RX4, "out", "(I)I"⟩
abbrev cX4_less : ByteArray := prog_1_method_14_code
def yX4_less : MethodName := ⟨RX4, "less", "(I)I"⟩
abbrev cX4_best : ByteArray := prog_1_method_15_code
def yX4_best : MethodName := ⟨RX4, "best", "(I)I"⟩
abbrev cX4_buying : ByteArray := prog_1_method_16_code
def yX4_buying : MethodName := ⟨RX4, "buying", "(I)I"⟩
abbrev cX4_close : ByteArray := prog_1_method_17_code
def yX4_close : MethodName := ⟨RX4, "close", "()I"⟩
abbrev cX4_half : ByteArray := prog_1_method_18_code
def yX4_half : MethodName := ⟨RX4, "half", "(I)I"⟩
abbrev cX4_pays : ByteArray := prog_1_method_19_code
def yX4_pays : MethodName := ⟨RX4, "pays", "(I)I"⟩
abbrev cX4_mean : ByteArray := prog_1_method_20_code
def yX4_mean : MethodName := ⟨RX4, "mean", "(I)J"⟩
abbrev cX4_likes : ByteArray := prog_1_method_21_code
def yX4_likes : MethodName := ⟨RX4, "likes", "(I)I"⟩
abbrev cX4_whose : ByteArray := prog_1_method_22_code
def yX4_whose : MethodName := ⟨RX4, "whose", "(I)I"⟩
abbrev cX4_share : ByteArray := prog_1_method_23_code
def yX4_share : MethodName := ⟨RX4, "share", "()I"⟩
abbrev cX4_bottles : ByteArray := prog_1_method_24_code
def yX4_bottles : MethodName := ⟨RX4, "bottles", "(I)I"⟩
abbrev cX4_row : ByteArray := prog_1_method_25_code
def yX4_row : MethodName := ⟨RX4, "row", "(I)I"⟩
abbrev cX4_fits : ByteArray := prog_1_method_26_code
def yX4_fits : MethodName := ⟨RX4, "fits", "()I"⟩
abbrev cX4_judge : ByteArray := prog_1_method_27_code
def yX4_judge : MethodName := ⟨RX4, "judge", "()I"⟩
abbrev cX4_lots : ByteArray := prog_1_method_28_code
def yX4_lots : MethodName := ⟨RX4, "lots", "(II)I"⟩
abbrev cX4_image : ByteArray := prog_1_method_29_code
def yX4_image : MethodName := ⟨RX4, "image", "()I"⟩
abbrev cX4_on : ByteArray := prog_1_method_30_code
def yX4_on : MethodName := ⟨RX4, "on", "()I"⟩
abbrev cX4_count : ByteArray := prog_1_method_31_code
def yX4_count : MethodName := ⟨RX4, "count", "(I)I"⟩
abbrev cX4_within : ByteArray := prog_1_method_32_code
def yX4_within : MethodName := ⟨RX4, "within", "(III)Z"⟩
abbrev cX4_isAge : ByteArray := prog_1_method_33_code
def yX4_isAge : MethodName := ⟨RX4, "isAge", "(I)Z"⟩
abbrev cX4_outside : ByteArray := prog_1_method_34_code
def yX4_outside : MethodName := ⟨RX4, "outside", "(III)I"⟩
abbrev cX4_refuse : ByteArray := prog_1_method_35_code
def yX4_refuse : MethodName := ⟨RX4, "refuse", "(I)I"⟩
abbrev cX4_becomeHouse : ByteArray := prog_1_method_36_code
def yX4_becomeHouse : MethodName := ⟨RX4, "becomeHouse", "()I"⟩
abbrev cX4_think : ByteArray := prog_1_method_37_code
def yX4_think : MethodName := ⟨RX4, "think", "()V"⟩
abbrev cX4_passInMind : ByteArray := prog_1_method_38_code
def yX4_passInMind : MethodName := ⟨RX4, "passInMind", "(I)I"⟩
abbrev cX4_bestOfSetting : ByteArray := prog_1_method_39_code
def yX4_bestOfSetting : MethodName := ⟨RX4, "bestOfSetting", "(II)I"⟩
abbrev cX4_chanceOf : ByteArray := prog_1_method_40_code
def yX4_chanceOf : MethodName := ⟨RX4, "chanceOf", "(I)J"⟩
abbrev cX4_valueIfThereCome : ByteArray := prog_1_method_41_code
def yX4_valueIfThereCome : MethodName := ⟨RX4, "valueIfThereCome", "(I)I"⟩
abbrev cX4_greatestDivisor : ByteArray := prog_1_method_42_code
def yX4_greatestDivisor : MethodName := ⟨RX4, "greatestDivisor", "(JJ)J"⟩
abbrev cX4_shareOne : ByteArray := prog_1_method_43_code
def yX4_shareOne : MethodName := ⟨RX4, "shareOne", "(I)V"⟩
abbrev cX4_openBottle : ByteArray := prog_1_method_44_code
def yX4_openBottle : MethodName := ⟨RX4, "openBottle", "(III)V"⟩
abbrev cX4_greatest : ByteArray := prog_1_method_45_code
def yX4_greatest : MethodName := ⟨RX4, "greatest", "([I)I"⟩
abbrev cX4_throwsAsInRow : ByteArray := prog_1_method_46_code
def yX4_throwsAsInRow : MethodName := ⟨RX4, "throwsAsInRow", "(I)Z"⟩
abbrev cX4_firstNotEatenToday : ByteArray := prog_1_method_47_code
def yX4_firstNotEatenToday : MethodName := ⟨RX4, "firstNotEatenToday", "()I"⟩
abbrev cX4_draw : ByteArray := prog_1_method_48_code
def yX4_draw : MethodName := ⟨RX4, "draw", "(II)I"⟩
def RX5 : String := "AlwaysYesterdaysModel"
def TX5 : u_T := fun k => match k with
  | 0 => ("AlwaysYesterdaysModel", "refused", "[I", true)
  | 1 => ("AlwaysYesterdaysModel", "now", "[I", true)
  | 2 => ("AlwaysYesterdaysModel", "mind", "[I", true)
  | 3 => ("AlwaysYesterdaysModel", "then", "[I", true)
  | 4 => ("AlwaysYesterdaysModel", "kept", "Z", false)
  | 5 => ("AlwaysYesterdaysModel", "hungers", "[I", true)
  | 6 => ("AlwaysYesterdaysModel", "eaten", "[I", true)
  | 7 => ("AlwaysYesterdaysModel", "eatenMany", "I", false)
  | 8 => ("AlwaysYesterdaysModel", "value", "I", false)
  | 9 => ("AlwaysYesterdaysModel", "fresh", "I", false)
  | 10 => ("AlwaysYesterdaysModel", "thrown", "I", false)
  | 11 => ("AlwaysYesterdaysModel", "lacked", "I", false)
  | 12 => ("AlwaysYesterdaysModel", "bought", "I", false)
  | 13 => ("AlwaysYesterdaysModel", "sums", "[I", true)
  | 14 => ("AlwaysYesterdaysModel", "tape", "[I", true)
  | 15 => ("AlwaysYesterdaysModel", "taped", "I", false)
  | 16 => ("AlwaysYesterdaysModel", "at", "I", false)
  | 17 => ("AlwaysYesterdaysModel", "well", "Z", false)
  | 18 => ("AlwaysYesterdaysModel", "begins", "[C", true)
  | 19 => ("AlwaysYesterdaysModel", "eaters", "[C", true)
  | 20 => ("AlwaysYesterdaysModel", "houses", "[C", true)
  | 21 => ("AlwaysYesterdaysModel", "opens", "[C", true)
  | 22 => ("AlwaysYesterdaysModel", "sort", "I", false)
  | 23 => ("AlwaysYesterdaysModel", "field", "[I", true)
  | 24 => ("AlwaysYesterdaysModel", "brought", "I", false)
  | 25 => ("AlwaysYesterdaysModel", "had", "[I", true)
  | 26 => ("AlwaysYesterdaysModel", "line", "[I", true)
  | _ => ("AlwaysYesterdaysModel", "lined", "I", false)
def tyX5 : Nat → FieldType := fun k => match k with
  | 0 => .array .int
  | 1 => .array .int
  | 2 => .array .int
  | 3 => .array .int
  | 4 => .boolean
  | 5 => .array .int
  | 6 => .array .int
  | 7 => .int
  | 8 => .int
  | 9 => .int
  | 10 => .int
  | 11 => .int
  | 12 => .int
  | 13 => .array .int
  | 14 => .array .int
  | 15 => .int
  | 16 => .int
  | 17 => .boolean
  | 18 => .array .char
  | 19 => .array .char
  | 20 => .array .char
  | 21 => .array .char
  | 22 => .int
  | 23 => .array .int
  | 24 => .int
  | 25 => .array .int
  | 26 => .array .int
  | _ => .int
abbrev wsX50 : List Cond := u_ws RX5 TX5 28
theorem nmX5 : ∀ a, a < 28 → ∀ b, b < 28 → a ≠ b → (TX5 a).2.1 ≠ (TX5 b).2.1 := by decide +kernel
theorem tyX5_ok : ∀ k, k < 28 → parseFieldDescriptor (TX5 k).2.2.1 = some (tyX5 k) := by decide +kernel
abbrev cX5_no : ByteArray := prog_7_method_1_code
def yX5_no : MethodName := ⟨RX5, "no", "(I)I"⟩
abbrev cX5_init : ByteArray := prog_7_method_2_code
def yX5_init : MethodName := ⟨RX5, "<init>", "()V"⟩
abbrev cX5_move : ByteArray := prog_7_method_3_code
def yX5_move : MethodName := ⟨RX5, "move", "([I[I)V"⟩
abbrev cX5_image : ByteArray := prog_7_method_4_code
def yX5_image : MethodName := ⟨RX5, "image", "()I"⟩
abbrev cX5_on : ByteArray := prog_7_method_5_code
def yX5_on : MethodName := ⟨RX5, "on", "()I"⟩
abbrev cX5_worthOf : ByteArray := prog_7_method_6_code
def yX5_worthOf : MethodName := ⟨RX5, "worthOf", "([III)I"⟩
abbrev cX5_next : ByteArray := prog_7_method_7_code
def yX5_next : MethodName := ⟨RX5, "next", "([II)I"⟩
abbrev cX5_come : ByteArray := prog_7_method_8_code
def yX5_come : MethodName := ⟨RX5, "come", "([III)I"⟩
abbrev cX5_day : ByteArray := prog_7_method_9_code
def yX5_day : MethodName := ⟨RX5, "day", "([II)V"⟩
abbrev cX5_asTold : ByteArray := prog_7_method_10_code
def yX5_asTold : MethodName := ⟨RX5, "asTold", "([I)V"⟩
abbrev cX5_goOn : ByteArray := prog_7_method_11_code
def yX5_goOn : MethodName := ⟨RX5, "goOn", "(II)V"⟩
abbrev cX5_valueOf : ByteArray := prog_7_method_12_code
def yX5_valueOf : MethodName := ⟨RX5, "valueOf", "(I)I"⟩
abbrev cX5_letter : ByteArray := prog_7_method_13_code
def yX5_letter : MethodName := ⟨RX5, "letter", "(I)I"⟩
abbrev cX5_oneOf : ByteArray := prog_7_method_14_code
def yX5_oneOf : MethodName := ⟨RX5, "oneOf", "([C)I"⟩
abbrev cX5_figures : ByteArray := prog_7_method_15_code
def yX5_figures : MethodName := ⟨RX5, "figures", "(II)I"⟩
abbrev cX5_statement : ByteArray := prog_7_method_16_code
def yX5_statement : MethodName := ⟨RX5, "statement", "()V"⟩
abbrev cX5_isAsItMustBe : ByteArray := prog_7_method_17_code
def yX5_isAsItMustBe : MethodName := ⟨RX5, "isAsItMustBe", "()Z"⟩
abbrev cX5_take : ByteArray := prog_7_method_18_code
def yX5_take : MethodName := ⟨RX5, "take", "()V"⟩
abbrev cX5_read : ByteArray := prog_7_method_19_code
def yX5_read : MethodName := ⟨RX5, "read", "()I"⟩
abbrev cX5_house : ByteArray := prog_7_method_20_code
def yX5_house : MethodName := ⟨RX5, "house", "()I"⟩
abbrev cX5_isNoEater : ByteArray := prog_7_method_21_code
def yX5_isNoEater : MethodName := ⟨RX5, "isNoEater", "(I)Z"⟩
abbrev cX5_isNoAge : ByteArray := prog_7_method_22_code
def yX5_isNoAge : MethodName := ⟨RX5, "isNoAge", "(I)Z"⟩
abbrev cX5_eater : ByteArray := prog_7_method_23_code
def yX5_eater : MethodName := ⟨RX5, "eater", "(II)I"⟩
abbrev cX5_change : ByteArray := prog_7_method_24_code
def yX5_change : MethodName := ⟨RX5, "change", "(III)I"⟩
abbrev cX5_stock : ByteArray := prog_7_method_25_code
def yX5_stock : MethodName := ⟨RX5, "stock", "(II)I"⟩
abbrev cX5_open : ByteArray := prog_7_method_26_code
def yX5_open : MethodName := ⟨RX5, "open", "(II)I"⟩
abbrev cX5_set : ByteArray := prog_7_method_27_code
def yX5_set : MethodName := ⟨RX5, "set", "(II)I"⟩
abbrev cX5_worth : ByteArray := prog_7_method_28_code
def yX5_worth : MethodName := ⟨RX5, "worth", "(II)I"⟩
abbrev cX5_dayOn : ByteArray := prog_7_method_29_code
def yX5_dayOn : MethodName := ⟨RX5, "dayOn", "()I"⟩
abbrev cX5_isWrong : ByteArray := prog_7_method_30_code
def yX5_isWrong : MethodName := ⟨RX5, "isWrong", "(I)I"⟩
abbrev cX5_total : ByteArray := prog_7_method_31_code
def yX5_total : MethodName := ⟨RX5, "total", "(II)I"⟩
abbrev cX5_left : ByteArray := prog_7_method_32_code
def yX5_left : MethodName := ⟨RX5, "left", "(II)I"⟩
abbrev cX5_never : ByteArray := prog_7_method_33_code
def yX5_never : MethodName := ⟨RX5, "never", "()I"⟩
abbrev cX5_slices : ByteArray := prog_7_method_34_code
def yX5_slices : MethodName := ⟨RX5, "slices", "([I)I"⟩
abbrev cX5_out : ByteArray := prog_7_method_35_code
def yX5_out : MethodName := ⟨RX5, "out", "(I)I"⟩
abbrev cX5_less : ByteArray := prog_7_method_36_code
def yX5_less : MethodName := ⟨RX5, "less", "(I)I"⟩
abbrev cX5_bestAt : ByteArray := prog_7_method_37_code
def yX5_bestAt : MethodName := ⟨RX5, "bestAt", "(III)I"⟩
abbrev cX5_best : ByteArray := prog_7_method_38_code
def yX5_best : MethodName := ⟨RX5, "best", "(I)I"⟩
abbrev cX5_buying : ByteArray := prog_7_method_39_code
def yX5_buying : MethodName := ⟨RX5, "buying", "(I)I"⟩
abbrev cX5_half : ByteArray := prog_7_method_40_code
def yX5_half : MethodName := ⟨RX5, "half", "(I)I"⟩
abbrev cX5_pays : ByteArray := prog_7_method_41_code
def yX5_pays : MethodName := ⟨RX5, "pays", "(I)I"⟩
abbrev cX5_close : ByteArray := prog_7_method_42_code
def yX5_close : MethodName := ⟨RX5, "close", "()I"⟩
abbrev cX5_openDays : ByteArray := prog_7_method_43_code
def yX5_openDays : MethodName := ⟨RX5, "openDays", "()I"⟩
abbrev cX5_mean : ByteArray := prog_7_method_44_code
def yX5_mean : MethodName := ⟨RX5, "mean", "(I)J"⟩
abbrev cX5_likes : ByteArray := prog_7_method_45_code
def yX5_likes : MethodName := ⟨RX5, "likes", "(I)I"⟩
abbrev cX5_whose : ByteArray := prog_7_method_46_code
def yX5_whose : MethodName := ⟨RX5, "whose", "(I)I"⟩
abbrev cX5_shared : ByteArray := prog_7_method_47_code
def yX5_shared : MethodName := ⟨RX5, "shared", "(II)I"⟩
abbrev cX5_share : ByteArray := prog_7_method_48_code
def yX5_share : MethodName := ⟨RX5, "share", "()I"⟩
abbrev cX5_opened : ByteArray := prog_7_method_49_code
def yX5_opened : MethodName := ⟨RX5, "opened", "(III)I"⟩
abbrev cX5_bottles : ByteArray := prog_7_method_50_code
def yX5_bottles : MethodName := ⟨RX5, "bottles", "(I)I"⟩
abbrev cX5_row : ByteArray := prog_7_method_51_code
def yX5_row : MethodName := ⟨RX5, "row", "(I)I"⟩
abbrev cX5_fits : ByteArray := prog_7_method_52_code
def yX5_fits : MethodName := ⟨RX5, "fits", "()I"⟩
abbrev cX5_judge : ByteArray := prog_7_method_53_code
def yX5_judge : MethodName := ⟨RX5, "judge", "()I"⟩
abbrev cX5_lots : ByteArray := prog_7_method_54_code
def yX5_lots : MethodName := ⟨RX5, "lots", "(II)I"⟩
abbrev cX5_count : ByteArray := prog_7_method_55_code
def yX5_count : MethodName := ⟨RX5, "count", "(I)I"⟩
def RJx145de : String := "java/io/Serializable"
def TJx145de : u_T := fun k => match k with
  | _ => ("", "", "", false)
def tyJx145de : Nat → FieldType := fun k => match k with
  | _ => .int
abbrev wsJx145de0 : List Cond := u_ws RJx145de TJx145de 0
theorem nmJx145de : ∀ a, a < 0 → ∀ b, b < 0 → a ≠ b → (TJx145de a).2.1 ≠ (TJx145de b).2.1 := by decide +kernel
theorem tyJx145de_ok : ∀ k, k < 0 → parseFieldDescriptor (TJx145de k).2.2.1 = some (tyJx145de k) := by decide +kernel
def RJx9f9b0 : String := "java/lang/CharSequence"
def TJx9f9b0 : u_T := fun k => match k with
  | _ => ("", "", "", false)
def tyJx9f9b0 : Nat → FieldType := fun k => match k with
  | _ => .int
abbrev wsJx9f9b00 : List Cond := u_ws RJx9f9b0 TJx9f9b0 0
theorem nmJx9f9b0 : ∀ a, a < 0 → ∀ b, b < 0 → a ≠ b → (TJx9f9b0 a).2.1 ≠ (TJx9f9b0 b).2.1 := by decide +kernel
theorem tyJx9f9b0_ok : ∀ k, k < 0 → parseFieldDescriptor (TJx9f9b0 k).2.2.1 = some (tyJx9f9b0 k) := by decide +kernel
def RJ11 : String := "java/lang/Character"
def TJ11 : u_T := fun k => match k with
  | _ => ("", "", "", false)
def tyJ11 : Nat → FieldType := fun k => match k with
  | _ => .int
abbrev wsJ110 : List Cond := u_ws RJ11 TJ11 0
theorem nmJ11 : ∀ a, a < 0 → ∀ b, b < 0 → a ≠ b → (TJ11 a).2.1 ≠ (TJ11 b).2.1 := by decide +kernel
theorem tyJ11_ok : ∀ k, k < 0 → parseFieldDescriptor (TJ11 k).2.2.1 = some (tyJ11 k) := by decide +kernel
abbrev cJ11_isValidCodePoint_9a6ad : ByteArray := prog_8_method_11_code
def yJ11_isValidCodePoint_9a6ad : MethodName := ⟨RJ11, "isValidCodePoint", "(I)Z"⟩
abbrev cJ11_highSurrogate_5068e : ByteArray := prog_8_method_28_code
def yJ11_highSurrogate_5068e : MethodName := ⟨RJ11, "highSurrogate", "(I)C"⟩
abbrev cJ11_lowSurrogate_5068e : ByteArray := prog_8_method_29_code
def yJ11_lowSurrogate_5068e : MethodName := ⟨RJ11, "lowSurrogate", "(I)C"⟩
def RJxb160c : String := "java/lang/Comparable"
def TJxb160c : u_T := fun k => match k with
  | _ => ("", "", "", false)
def tyJxb160c : Nat → FieldType := fun k => match k with
  | _ => .int
abbrev wsJxb160c0 : List Cond := u_ws RJxb160c TJxb160c 0
theorem nmJxb160c : ∀ a, a < 0 → ∀ b, b < 0 → a ≠ b → (TJxb160c a).2.1 ≠ (TJxb160c b).2.1 := by decide +kernel
theorem tyJxb160c_ok : ∀ k, k < 0 → parseFieldDescriptor (TJxb160c k).2.2.1 = some (tyJxb160c k) := by decide +kernel
def RJ9 : String := "java/lang/Math"
def TJ9 : u_T := fun k => match k with
  | _ => ("", "", "", false)
def tyJ9 : Nat → FieldType := fun k => match k with
  | _ => .int
abbrev wsJ90 : List Cond := u_ws RJ9 TJ9 0
theorem nmJ9 : ∀ a, a < 0 → ∀ b, b < 0 → a ≠ b → (TJ9 a).2.1 ≠ (TJ9 b).2.1 := by decide +kernel
theorem tyJ9_ok : ∀ k, k < 0 → parseFieldDescriptor (TJ9 k).2.2.1 = some (tyJ9 k) := by decide +kernel
abbrev cJ9_abs_067f4 : ByteArray := prog_9_method_61_code
def yJ9_abs_067f4 : MethodName := ⟨RJ9, "abs", "(J)J"⟩
abbrev cJ9_max_7cf53 : ByteArray := prog_9_method_65_code
def yJ9_max_7cf53 : MethodName := ⟨RJ9, "max", "(II)I"⟩
abbrev cJ9_max_f86c9 : ByteArray := prog_9_method_66_code
def yJ9_max_f86c9 : MethodName := ⟨RJ9, "max", "(JJ)J"⟩
abbrev cJ9_min_7cf53 : ByteArray := prog_9_method_69_code
def yJ9_min_7cf53 : MethodName := ⟨RJ9, "min", "(II)I"⟩
def RJ0 : String := "java/lang/String"
def TJ0 : u_T := fun k => match k with
  | _ => ("", "", "", false)
def tyJ0 : Nat → FieldType := fun k => match k with
  | _ => .int
abbrev wsJ00 : List Cond := u_ws RJ0 TJ0 0
theorem nmJ0 : ∀ a, a < 0 → ∀ b, b < 0 → a ≠ b → (TJ0 a).2.1 ≠ (TJ0 b).2.1 := by decide +kernel
theorem tyJ0_ok : ∀ k, k < 0 → parseFieldDescriptor (TJ0 k).2.2.1 = some (tyJ0 k) := by decide +kernel
abbrev cJ0_length_8abf5 : ByteArray := prog_10_method_54_code
def yJ0_length_8abf5 : MethodName := ⟨RJ0, "length", "()I"⟩
abbrev cJ0_isEmpty_aae02 : ByteArray := prog_10_method_55_code
def yJ0_isEmpty_aae02 : MethodName := ⟨RJ0, "isEmpty", "()Z"⟩
abbrev cJ0_charAt_5068e : ByteArray := prog_10_method_56_code
def yJ0_charAt_5068e : MethodName := ⟨RJ0, "charAt", "(I)C"⟩
abbrev cJ0_indexOf_0f7a4 : ByteArray := prog_10_method_79_code
def yJ0_indexOf_0f7a4 : MethodName := ⟨RJ0, "indexOf", "(I)I"⟩
abbrev cJ0_indexOf_7cf53 : ByteArray := prog_10_method_80_code
def yJ0_indexOf_7cf53 : MethodName := ⟨RJ0, "indexOf", "(II)I"⟩
abbrev cJ0_coder_7d493 : ByteArray := prog_10_method_152_code
def yJ0_coder_7d493 : MethodName := ⟨RJ0, "coder", "()B"⟩
abbrev cJ0_isLatin1_aae02 : ByteArray := prog_10_method_154_code
def yJ0_isLatin1_aae02 : MethodName := ⟨RJ0, "isLatin1", "()Z"⟩
abbrev cJ0_checkIndex_df160 : ByteArray := prog_10_method_155_code
def yJ0_checkIndex_df160 : MethodName := ⟨RJ0, "checkIndex", "(II)V"⟩
abbrev cJ0_checkBoundsBeginEnd_23922 : ByteArray := prog_10_method_158_code
def yJ0_checkBoundsBeginEnd_23922 : MethodName := ⟨RJ0, "checkBoundsBeginEnd", "(III)V"⟩
def RJ1 : String := "java/lang/StringLatin1"
def TJ1 : u_T := fun k => match k with
  | _ => ("", "", "", false)
def tyJ1 : Nat → FieldType := fun k => match k with
  | _ => .int
abbrev wsJ10 : List Cond := u_ws RJ1 TJ1 0
theorem nmJ1 : ∀ a, a < 0 → ∀ b, b < 0 → a ≠ b → (TJ1 a).2.1 ≠ (TJ1 b).2.1 := by decide +kernel
theorem tyJ1_ok : ∀ k, k < 0 → parseFieldDescriptor (TJ1 k).2.2.1 = some (tyJ1 k) := by decide +kernel
abbrev cJ1_charAt_3b067 : ByteArray := prog_11_method_2_code
def yJ1_charAt_3b067 : MethodName := ⟨RJ1, "charAt", "([BI)C"⟩
abbrev cJ1_canEncode_9a6ad : ByteArray := prog_11_method_4_code
def yJ1_canEncode_9a6ad : MethodName := ⟨RJ1, "canEncode", "(I)Z"⟩
abbrev cJ1_indexOf_4cfef : ByteArray := prog_11_method_22_code
def yJ1_indexOf_4cfef : MethodName := ⟨RJ1, "indexOf", "([BIII)I"⟩
abbrev cJ1_indexOfChar_4cfef : ByteArray := prog_11_method_23_code
def yJ1_indexOfChar_4cfef : MethodName := ⟨RJ1, "indexOfChar", "([BIII)I"⟩
def RJ2 : String := "java/lang/StringUTF16"
def TJ2 : u_T := fun k => match k with
  | _ => ("", "", "", false)
def tyJ2 : Nat → FieldType := fun k => match k with
  | _ => .int
abbrev wsJ20 : List Cond := u_ws RJ2 TJ2 0
theorem nmJ2 : ∀ a, a < 0 → ∀ b, b < 0 → a ≠ b → (TJ2 a).2.1 ≠ (TJ2 b).2.1 := by decide +kernel
theorem tyJ2_ok : ∀ k, k < 0 → parseFieldDescriptor (TJ2 k).2.2.1 = some (tyJ2 k) := by decide +kernel
abbrev cJ2_getChar_3b067 : ByteArray := prog_12_method_5_code
def yJ2_getChar_3b067 : MethodName := ⟨RJ2, "getChar", "([BI)C"⟩
abbrev cJ2_length_9d52b : ByteArray := prog_12_method_6_code
def yJ2_length_9d52b : MethodName := ⟨RJ2, "length", "([B)I"⟩
abbrev cJ2_indexOf_4cfef : ByteArray := prog_12_method_40_code
def yJ2_indexOf_4cfef : MethodName := ⟨RJ2, "indexOf", "([BIII)I"⟩
abbrev cJ2_indexOfChar_4cfef : ByteArray := prog_12_method_47_code
def yJ2_indexOfChar_4cfef : MethodName := ⟨RJ2, "indexOfChar", "([BIII)I"⟩
abbrev cJ2_indexOfCharUnsafe_4cfef : ByteArray := prog_12_method_48_code
def yJ2_indexOfCharUnsafe_4cfef : MethodName := ⟨RJ2, "indexOfCharUnsafe", "([BIII)I"⟩
abbrev cJ2_indexOfSupplementary_4cfef : ByteArray := prog_12_method_49_code
def yJ2_indexOfSupplementary_4cfef : MethodName := ⟨RJ2, "indexOfSupplementary", "([BIII)I"⟩
abbrev cJ2_charAt_3b067 : ByteArray := prog_12_method_83_code
def yJ2_charAt_3b067 : MethodName := ⟨RJ2, "charAt", "([BI)C"⟩
abbrev cJ2_checkIndex_2214a : ByteArray := prog_12_method_91_code
def yJ2_checkIndex_2214a : MethodName := ⟨RJ2, "checkIndex", "(I[B)V"⟩
abbrev cJ2_checkBoundsBeginEnd_d044e : ByteArray := prog_12_method_93_code
def yJ2_checkBoundsBeginEnd_d044e : MethodName := ⟨RJ2, "checkBoundsBeginEnd", "(II[B)V"⟩
def RJ10 : String := "java/lang/System"
def TJ10 : u_T := fun k => match k with
  | _ => ("", "", "", false)
def tyJ10 : Nat → FieldType := fun k => match k with
  | _ => .int
abbrev wsJ100 : List Cond := u_ws RJ10 TJ10 0
theorem nmJ10 : ∀ a, a < 0 → ∀ b, b < 0 → a ≠ b → (TJ10 a).2.1 ≠ (TJ10 b).2.1 := by decide +kernel
theorem tyJ10_ok : ∀ k, k < 0 → parseFieldDescriptor (TJ10 k).2.2.1 = some (tyJ10 k) := by decide +kernel
def RJxfd54e : String := "java/lang/constant/Constable"
def TJxfd54e : u_T := fun k => match k with
  | _ => ("", "", "", false)
def tyJxfd54e : Nat → FieldType := fun k => match k with
  | _ => .int
abbrev wsJxfd54e0 : List Cond := u_ws RJxfd54e TJxfd54e 0
theorem nmJxfd54e : ∀ a, a < 0 → ∀ b, b < 0 → a ≠ b → (TJxfd54e a).2.1 ≠ (TJxfd54e b).2.1 := by decide +kernel
theorem tyJxfd54e_ok : ∀ k, k < 0 → parseFieldDescriptor (TJxfd54e k).2.2.1 = some (tyJxfd54e k) := by decide +kernel
def RJx3cf43 : String := "java/lang/constant/ConstantDesc"
def TJx3cf43 : u_T := fun k => match k with
  | _ => ("", "", "", false)
def tyJx3cf43 : Nat → FieldType := fun k => match k with
  | _ => .int
abbrev wsJx3cf430 : List Cond := u_ws RJx3cf43 TJx3cf43 0
theorem nmJx3cf43 : ∀ a, a < 0 → ∀ b, b < 0 → a ≠ b → (TJx3cf43 a).2.1 ≠ (TJx3cf43 b).2.1 := by decide +kernel
theorem tyJx3cf43_ok : ∀ k, k < 0 → parseFieldDescriptor (TJx3cf43 k).2.2.1 = some (tyJx3cf43 k) := by decide +kernel
def RJ7 : String := "java/util/Arrays"
def TJ7 : u_T := fun k => match k with
  | _ => ("", "", "", false)
def tyJ7 : Nat → FieldType := fun k => match k with
  | _ => .int
abbrev wsJ70 : List Cond := u_ws RJ7 TJ7 0
theorem nmJ7 : ∀ a, a < 0 → ∀ b, b < 0 → a ≠ b → (TJ7 a).2.1 ≠ (TJ7 b).2.1 := by decide +kernel
theorem tyJ7_ok : ∀ k, k < 0 → parseFieldDescriptor (TJ7 k).2.2.1 = some (tyJ7 k) := by decide +kernel
abbrev cJ7_fill_53178 : ByteArray := prog_14_method_103_code
def yJ7_fill_53178 : MethodName := ⟨RJ7, "fill", "([II)V"⟩
def RJ3 : String := "jdk/internal/util/Preconditions"
def TJ3 : u_T := fun k => match k with
  | _ => ("", "", "", false)
def tyJ3 : Nat → FieldType := fun k => match k with
  | _ => .int
abbrev wsJ30 : List Cond := u_ws RJ3 TJ3 0
theorem nmJ3 : ∀ a, a < 0 → ∀ b, b < 0 → a ≠ b → (TJ3 a).2.1 ≠ (TJ3 b).2.1 := by decide +kernel
theorem tyJ3_ok : ∀ k, k < 0 → parseFieldDescriptor (TJ3 k).2.2.1 = some (tyJ3 k) := by decide +kernel
abbrev cJ3_checkIndex_8e157 : ByteArray := prog_15_method_11_code
def yJ3_checkIndex_8e157 : MethodName := ⟨RJ3, "checkIndex", "(IILjava/util/function/BiFunction;)I"⟩
abbrev cJ3_checkFromToIndex_8c36e : ByteArray := prog_15_method_12_code
def yJ3_checkFromToIndex_8c36e : MethodName := ⟨RJ3, "checkFromToIndex", "(IIILjava/util/function/BiFunction;)I"⟩
def RL : String := "AlwaysYesterdaysLaw"
abbrev cL_law : ByteArray := code
def yL_law : MethodName := ⟨RL, "law", "([I)Z"⟩
abbrev vwCl : List vw_C := [(RX0, TX0, 2), (RX1, TX1, 7), (RX2, TX2, 2), (RX3, TX3, 3), (RX4, TX4, 12), (RX5, TX5, 28)]
end
section
theorem dX0_init_0 : decode cX0_init 0 = .ok (.aload_n 0, 1) := by decide +kernel
theorem dX0_init_1 : decode cX0_init 1 = .ok (.invokespecial 3, 3) := by decide +kernel
theorem dX0_init_4 : decode cX0_init 4 = .ok (.return_, 1) := by decide +kernel
theorem dX0_clear_0 : decode cX0_clear 0 = .ok (.aload_n 0, 1) := by decide +kernel
theorem dX0_clear_1 : decode cX0_clear 1 = .ok (.bipush (-9), 2) := by decide +kernel
theorem dX0_clear_3 : decode cX0_clear 3 = .ok (.putfield 9, 3) := by decide +kernel
theorem dX0_clear_6 : decode cX0_clear 6 = .ok (.aload_n 0, 1) := by decide +kernel
theorem dX0_clear_7 : decode cX0_clear 7 = .ok (.iconst 0, 1) := by decide +kernel
theorem dX0_clear_8 : decode cX0_clear 8 = .ok (.putfield 15, 3) := by decide +kernel
theorem dX0_clear_11 : decode cX0_clear 11 = .ok (.return_, 1) := by decide +kernel
theorem dX0_offer_0 : decode cX0_offer 0 = .ok (.aload_n 0, 1) := by decide +kernel
theorem dX0_offer_1 : decode cX0_offer 1 = .ok (.getfield 9, 3) := by decide +kernel
theorem dX0_offer_4 : decode cX0_offer 4 = .ok (.bipush (-9), 2) := by decide +kernel
theorem dX0_offer_6 : decode cX0_offer 6 = .ok (.if_icmp .eq 11, 3) := by decide +kernel
theorem dX0_offer_9 : decode cX0_offer 9 = .ok (.iload_n 2, 1) := by decide +kernel
theorem dX0_offer_10 : decode cX0_offer 10 = .ok (.aload_n 0, 1) := by decide +kernel
theorem dX0_offer_11 : decode cX0_offer 11 = .ok (.getfield 15, 3) := by decide +kernel
theorem dX0_offer_14 : decode cX0_offer 14 = .ok (.if_icmp .le 13, 3) := by decide +kernel
theorem dX0_offer_17 : decode cX0_offer 17 = .ok (.aload_n 0, 1) := by decide +kernel
theorem dX0_offer_18 : decode cX0_offer 18 = .ok (.iload_n 1, 1) := by decide +kernel
theorem dX0_offer_19 : decode cX0_offer 19 = .ok (.putfield 9, 3) := by decide +kernel
theorem dX0_offer_22 : decode cX0_offer 22 = .ok (.aload_n 0, 1) := by decide +kernel
theorem dX0_offer_23 : decode cX0_offer 23 = .ok (.iload_n 2, 1) := by decide +kernel
theorem dX0_offer_24 : decode cX0_offer 24 = .ok (.putfield 15, 3) := by decide +kernel
theorem dX0_offer_27 : decode cX0_offer 27 = .ok (.return_, 1) := by decide +kernel
theorem dX1_init_0 : decode cX1_init 0 = .ok (.aload_n 0, 1) := by decide +kernel
theorem dX1_init_1 : decode cX1_init 1 = .ok (.invokespecial 3, 3) := by decide +kernel
theorem dX1_init_4 : decode cX1_init 4 = .ok (.aload_n 0, 1) := by decide +kernel
theorem dX1_init_5 : decode cX1_init 5 = .ok (.iconst 5, 1) := by decide +kernel
theorem dX1_init_6 : decode cX1_init 6 = .ok (.newarray .int, 2) := by decide +kernel
theorem dX1_init_8 : decode cX1_init 8 = .ok (.putfield 9, 3) := by decide +kernel
theorem dX1_init_11 : decode cX1_init 11 = .ok (.aload_n 0, 1) := by decide +kernel
theorem dX1_init_12 : decode cX1_init 12 = .ok (.bipush 7, 2) := by decide +kernel
theorem dX1_init_14 : decode cX1_init 14 = .ok (.newarray .int, 2) := by decide +kernel
theorem dX1_init_16 : decode cX1_init 16 = .ok (.dup, 1) := by decide +kernel
theorem dX1_init_17 : decode cX1_init 17 = .ok (.iconst 0, 1) := by decide +kernel
theorem dX1_init_18 : decode cX1_init 18 = .ok (.iconst 1, 1) := by decide +kernel
theorem dX1_init_19 : decode cX1_init 19 = .ok (.iastore, 1) := by decide +kernel
theorem dX1_init_20 : decode cX1_init 20 = .ok (.dup, 1) := by decide +kernel
theorem dX1_init_21 : decode cX1_init 21 = .ok (.iconst 1, 1) := by decide +kernel
theorem dX1_init_22 : decode cX1_init 22 = .ok (.iconst 1, 1) := by decide +kernel
theorem dX1_init_23 : decode cX1_init 23 = .ok (.iastore, 1) := by decide +kernel
theorem dX1_init_24 : decode cX1_init 24 = .ok (.dup, 1) := by decide +kernel
theorem dX1_init_25 : decode cX1_init 25 = .ok (.iconst 2, 1) := by decide +kernel
theorem dX1_init_26 : decode cX1_init 26 = .ok (.iconst 1, 1) := by decide +kernel
theorem dX1_init_27 : decode cX1_init 27 = .ok (.iastore, 1) := by decide +kernel
theorem dX1_init_28 : decode cX1_init 28 = .ok (.dup, 1) := by decide +kernel
theorem dX1_init_29 : decode cX1_init 29 = .ok (.iconst 3, 1) := by decide +kernel
theorem dX1_init_30 : decode cX1_init 30 = .ok (.iconst 1, 1) := by decide +kernel
theorem dX1_init_31 : decode cX1_init 31 = .ok (.iastore, 1) := by decide +kernel
theorem dX1_init_32 : decode cX1_init 32 = .ok (.dup, 1) := by decide +kernel
theorem dX1_init_33 : decode cX1_init 33 = .ok (.iconst 4, 1) := by decide +kernel
theorem dX1_init_34 : decode cX1_init 34 = .ok (.iconst 1, 1) := by decide +kernel
theorem dX1_init_35 : decode cX1_init 35 = .ok (.iastore, 1) := by decide +kernel
theorem dX1_init_36 : decode cX1_init 36 = .ok (.dup, 1) := by decide +kernel
theorem dX1_init_37 : decode cX1_init 37 = .ok (.iconst 5, 1) := by decide +kernel
theorem dX1_init_38 : decode cX1_init 38 = .ok (.iconst 1, 1) := by decide +kernel
theorem dX1_init_39 : decode cX1_init 39 = .ok (.iastore, 1) := by decide +kernel
theorem dX1_init_40 : decode cX1_init 40 = .ok (.dup, 1) := by decide +kernel
theorem dX1_init_41 : decode cX1_init 41 = .ok (.bipush 6, 2) := by decide +kernel
theorem dX1_init_43 : decode cX1_init 43 = .ok (.iconst 1, 1) := by decide +kernel
theorem dX1_init_44 : decode cX1_init 44 = .ok (.iastore, 1) := by decide +kernel
theorem dX1_init_45 : decode cX1_init 45 = .ok (.putfield 15, 3) := by decide +kernel
theorem dX1_init_48 : decode cX1_init 48 = .ok (.aload_n 0, 1) := by decide +kernel
theorem dX1_init_49 : decode cX1_init 49 = .ok (.bipush 6, 2) := by decide +kernel
theorem dX1_init_51 : decode cX1_init 51 = .ok (.newarray .int, 2) := by decide +kernel
theorem dX1_init_53 : decode cX1_init 53 = .ok (.dup, 1) := by decide +kernel
theorem dX1_init_54 : decode cX1_init 54 = .ok (.iconst 0, 1) := by decide +kernel
theorem dX1_init_55 : decode cX1_init 55 = .ok (.bipush 6, 2) := by decide +kernel
theorem dX1_init_57 : decode cX1_init 57 = .ok (.iastore, 1) := by decide +kernel
theorem dX1_init_58 : decode cX1_init 58 = .ok (.dup, 1) := by decide +kernel
theorem dX1_init_59 : decode cX1_init 59 = .ok (.iconst 1, 1) := by decide +kernel
theorem dX1_init_60 : decode cX1_init 60 = .ok (.iconst 0, 1) := by decide +kernel
theorem dX1_init_61 : decode cX1_init 61 = .ok (.iastore, 1) := by decide +kernel
theorem dX1_init_62 : decode cX1_init 62 = .ok (.dup, 1) := by decide +kernel
theorem dX1_init_63 : decode cX1_init 63 = .ok (.iconst 2, 1) := by decide +kernel
theorem dX1_init_64 : decode cX1_init 64 = .ok (.iconst 2, 1) := by decide +kernel
theorem dX1_init_65 : decode cX1_init 65 = .ok (.iastore, 1) := by decide +kernel
theorem dX1_init_66 : decode cX1_init 66 = .ok (.dup, 1) := by decide +kernel
theorem dX1_init_67 : decode cX1_init 67 = .ok (.iconst 3, 1) := by decide +kernel
theorem dX1_init_68 : decode cX1_init 68 = .ok (.iconst 1, 1) := by decide +kernel
theorem dX1_init_69 : decode cX1_init 69 = .ok (.iastore, 1) := by decide +kernel
theorem dX1_init_70 : decode cX1_init 70 = .ok (.dup, 1) := by decide +kernel
theorem dX1_init_71 : decode cX1_init 71 = .ok (.iconst 4, 1) := by decide +kernel
theorem dX1_init_72 : decode cX1_init 72 = .ok (.iconst 3, 1) := by decide +kernel
theorem dX1_init_73 : decode cX1_init 73 = .ok (.iastore, 1) := by decide +kernel
theorem dX1_init_74 : decode cX1_init 74 = .ok (.dup, 1) := by decide +kernel
theorem dX1_init_75 : decode cX1_init 75 = .ok (.iconst 5, 1) := by decide +kernel
theorem dX1_init_76 : decode cX1_init 76 = .ok (.iconst 0, 1) := by decide +kernel
theorem dX1_init_77 : decode cX1_init 77 = .ok (.iastore, 1) := by decide +kernel
theorem dX1_init_78 : decode cX1_init 78 = .ok (.putfield 18, 3) := by decide +kernel
theorem dX1_init_81 : decode cX1_init 81 = .ok (.aload_n 0, 1) := by decide +kernel
theorem dX1_init_82 : decode cX1_init 82 = .ok (.iconst 4, 1) := by decide +kernel
theorem dX1_init_83 : decode cX1_init 83 = .ok (.iconst 4, 1) := by decide +kernel
theorem dX1_init_84 : decode cX1_init 84 = .ok (.multianewarray 21 2, 4) := by decide +kernel
theorem dX1_init_88 : decode cX1_init 88 = .ok (.putfield 23, 3) := by decide +kernel
theorem dX1_init_91 : decode cX1_init 91 = .ok (.return_, 1) := by decide +kernel
theorem dX1_become_0 : decode cX1_become 0 = .ok (.aload_n 1, 1) := by decide +kernel
theorem dX1_become_1 : decode cX1_become 1 = .ok (.getfield 9, 3) := by decide +kernel
theorem dX1_become_4 : decode cX1_become 4 = .ok (.iconst 0, 1) := by decide +kernel
theorem dX1_become_5 : decode cX1_become 5 = .ok (.aload_n 0, 1) := by decide +kernel
theorem dX1_become_6 : decode cX1_become 6 = .ok (.getfield 9, 3) := by decide +kernel
theorem dX1_become_9 : decode cX1_become 9 = .ok (.iconst 0, 1) := by decide +kernel
theorem dX1_become_10 : decode cX1_become 10 = .ok (.iconst 5, 1) := by decide +kernel
theorem dX1_become_11 : decode cX1_become 11 = .ok (.invokestatic 26, 3) := by decide +kernel
theorem dX1_become_14 : decode cX1_become 14 = .ok (.aload_n 1, 1) := by decide +kernel
theorem dX1_become_15 : decode cX1_become 15 = .ok (.getfield 15, 3) := by decide +kernel
theorem dX1_become_18 : decode cX1_become 18 = .ok (.iconst 0, 1) := by decide +kernel
theorem dX1_become_19 : decode cX1_become 19 = .ok (.aload_n 0, 1) := by decide +kernel
theorem dX1_become_20 : decode cX1_become 20 = .ok (.getfield 15, 3) := by decide +kernel
theorem dX1_become_23 : decode cX1_become 23 = .ok (.iconst 0, 1) := by decide +kernel
theorem dX1_become_24 : decode cX1_become 24 = .ok (.bipush 7, 2) := by decide +kernel
theorem dX1_become_26 : decode cX1_become 26 = .ok (.invokestatic 26, 3) := by decide +kernel
theorem dX1_become_29 : decode cX1_become 29 = .ok (.aload_n 1, 1) := by decide +kernel
theorem dX1_become_30 : decode cX1_become 30 = .ok (.getfield 18, 3) := by decide +kernel
theorem dX1_become_33 : decode cX1_become 33 = .ok (.iconst 0, 1) := by decide +kernel
theorem dX1_become_34 : decode cX1_become 34 = .ok (.aload_n 0, 1) := by decide +kernel
theorem dX1_become_35 : decode cX1_become 35 = .ok (.getfield 18, 3) := by decide +kernel
theorem dX1_become_38 : decode cX1_become 38 = .ok (.iconst 0, 1) := by decide +kernel
theorem dX1_become_39 : decode cX1_become 39 = .ok (.aload_n 0, 1) := by decide +kernel
theorem dX1_become_40 : decode cX1_become 40 = .ok (.getfield 18, 3) := by decide +kernel
theorem dX1_become_43 : decode cX1_become 43 = .ok (.arraylength, 1) := by decide +kernel
theorem dX1_become_44 : decode cX1_become 44 = .ok (.invokestatic 26, 3) := by decide +kernel
theorem dX1_become_47 : decode cX1_become 47 = .ok (.iconst 0, 1) := by decide +kernel
theorem dX1_become_48 : decode cX1_become 48 = .ok (.istore_n 2, 1) := by decide +kernel
theorem dX1_become_49 : decode cX1_become 49 = .ok (.iload_n 2, 1) := by decide +kernel
theorem dX1_become_50 : decode cX1_become 50 = .ok (.iconst 4, 1) := by decide +kernel
theorem dX1_become_51 : decode cX1_become 51 = .ok (.if_icmp .ge 27, 3) := by decide +kernel
theorem dX1_become_54 : decode cX1_become 54 = .ok (.aload_n 1, 1) := by decide +kernel
theorem dX1_become_55 : decode cX1_become 55 = .ok (.getfield 23, 3) := by decide +kernel
theorem dX1_become_58 : decode cX1_become 58 = .ok (.iload_n 2, 1) := by decide +kernel
theorem dX1_become_59 : decode cX1_become 59 = .ok (.aaload, 1) := by decide +kernel
theorem dX1_become_60 : decode cX1_become 60 = .ok (.iconst 0, 1) := by decide +kernel
theorem dX1_become_61 : decode cX1_become 61 = .ok (.aload_n 0, 1) := by decide +kernel
theorem dX1_become_62 : decode cX1_become 62 = .ok (.getfield 23, 3) := by decide +kernel
theorem dX1_become_65 : decode cX1_become 65 = .ok (.iload_n 2, 1) := by decide +kernel
theorem dX1_become_66 : decode cX1_become 66 = .ok (.aaload, 1) := by decide +kernel
theorem dX1_become_67 : decode cX1_become 67 = .ok (.iconst 0, 1) := by decide +kernel
theorem dX1_become_68 : decode cX1_become 68 = .ok (.iconst 4, 1) := by decide +kernel
theorem dX1_become_69 : decode cX1_become 69 = .ok (.invokestatic 26, 3) := by decide +kernel
theorem dX1_become_72 : decode cX1_become 72 = .ok (.iinc 2 1, 3) := by decide +kernel
theorem dX1_become_75 : decode cX1_become 75 = .ok (.goto (-26), 3) := by decide +kernel
theorem dX1_become_78 : decode cX1_become 78 = .ok (.aload_n 0, 1) := by decide +kernel
theorem dX1_become_79 : decode cX1_become 79 = .ok (.aload_n 1, 1) := by decide +kernel
theorem dX1_become_80 : decode cX1_become 80 = .ok (.getfield 32, 3) := by decide +kernel
theorem dX1_become_83 : decode cX1_become 83 = .ok (.putfield 32, 3) := by decide +kernel
theorem dX1_become_86 : decode cX1_become 86 = .ok (.aload_n 0, 1) := by decide +kernel
theorem dX1_become_87 : decode cX1_become 87 = .ok (.aload_n 1, 1) := by decide +kernel
theorem dX1_become_88 : decode cX1_become 88 = .ok (.getfield 36, 3) := by decide +kernel
theorem dX1_become_91 : decode cX1_become 91 = .ok (.putfield 36, 3) := by decide +kernel
theorem dX1_become_94 : decode cX1_become 94 = .ok (.aload_n 0, 1) := by decide +kernel
theorem dX1_become_95 : decode cX1_become 95 = .ok (.aload_n 1, 1) := by decide +kernel
theorem dX1_become_96 : decode cX1_become 96 = .ok (.getfield 39, 3) := by decide +kernel
theorem dX1_become_99 : decode cX1_become 99 = .ok (.putfield 39, 3) := by decide +kernel
theorem dX1_become_102 : decode cX1_become 102 = .ok (.return_, 1) := by decide +kernel
theorem dX1_has_0 : decode cX1_has 0 = .ok (.iload_n 1, 1) := by decide +kernel
theorem dX1_has_1 : decode cX1_has 1 = .ok (.ifCond .lt 15, 3) := by decide +kernel
theorem dX1_has_4 : decode cX1_has 4 = .ok (.iload_n 1, 1) := by decide +kernel
theorem dX1_has_5 : decode cX1_has 5 = .ok (.aload_n 0, 1) := by decide +kernel
theorem dX1_has_6 : decode cX1_has 6 = .ok (.getfield 32, 3) := by decide +kernel
theorem dX1_has_9 : decode cX1_has 9 = .ok (.if_icmp .ge 7, 3) := by decide +kernel
theorem dX1_has_12 : decode cX1_has 12 = .ok (.iconst 1, 1) := by decide +kernel
theorem dX1_has_13 : decode cX1_has 13 = .ok (.goto 4, 3) := by decide +kernel
theorem dX1_has_16 : decode cX1_has 16 = .ok (.iconst 0, 1) := by decide +kernel
theorem dX1_has_17 : decode cX1_has 17 = .ok (.ireturn, 1) := by decide +kernel
theorem dX1_allSlices_0 : decode cX1_allSlices 0 = .ok (.iconst 0, 1) := by decide +kernel
theorem dX1_allSlices_1 : decode cX1_allSlices 1 = .ok (.istore_n 1, 1) := by decide +kernel
theorem dX1_allSlices_2 : decode cX1_allSlices 2 = .ok (.iconst 0, 1) := by decide +kernel
theorem dX1_allSlices_3 : decode cX1_allSlices 3 = .ok (.istore_n 2, 1) := by decide +kernel
theorem dX1_allSlices_4 : decode cX1_allSlices 4 = .ok (.iload_n 2, 1) := by decide +kernel
theorem dX1_allSlices_5 : decode cX1_allSlices 5 = .ok (.iconst 5, 1) := by decide +kernel
theorem dX1_allSlices_6 : decode cX1_allSlices 6 = .ok (.if_icmp .ge 18, 3) := by decide +kernel
theorem dX1_allSlices_9 : decode cX1_allSlices 9 = .ok (.iload_n 1, 1) := by decide +kernel
theorem dX1_allSlices_10 : decode cX1_allSlices 10 = .ok (.aload_n 0, 1) := by decide +kernel
theorem dX1_allSlices_11 : decode cX1_allSlices 11 = .ok (.getfield 9, 3) := by decide +kernel
theorem dX1_allSlices_14 : decode cX1_allSlices 14 = .ok (.iload_n 2, 1) := by decide +kernel
theorem dX1_allSlices_15 : decode cX1_allSlices 15 = .ok (.iaload, 1) := by decide +kernel
theorem dX1_allSlices_16 : decode cX1_allSlices 16 = .ok (.iadd, 1) := by decide +kernel
theorem dX1_allSlices_17 : decode cX1_allSlices 17 = .ok (.istore_n 1, 1) := by decide +kernel
theorem dX1_allSlices_18 : decode cX1_allSlices 18 = .ok (.iinc 2 1, 3) := by decide +kernel
theorem dX1_allSlices_21 : decode cX1_allSlices 21 = .ok (.goto (-17), 3) := by decide +kernel
theorem dX1_allSlices_24 : decode cX1_allSlices 24 = .ok (.iload_n 1, 1) := by decide +kernel
theorem dX1_allSlices_25 : decode cX1_allSlices 25 = .ok (.ireturn, 1) := by decide +kernel
theorem dX1_openDays_0 : decode cX1_openDays 0 = .ok (.iconst 0, 1) := by decide +kernel
theorem dX1_openDays_1 : decode cX1_openDays 1 = .ok (.istore_n 1, 1) := by decide +kernel
theorem dX1_openDays_2 : decode cX1_openDays 2 = .ok (.iconst 0, 1) := by decide +kernel
theorem dX1_openDays_3 : decode cX1_openDays 3 = .ok (.istore_n 2, 1) := by decide +kernel
theorem dX1_openDays_4 : decode cX1_openDays 4 = .ok (.iload_n 2, 1) := by decide +kernel
theorem dX1_openDays_5 : decode cX1_openDays 5 = .ok (.bipush 7, 2) := by decide +kernel
theorem dX1_openDays_7 : decode cX1_openDays 7 = .ok (.if_icmp .ge 18, 3) := by decide +kernel
theorem dX1_openDays_10 : decode cX1_openDays 10 = .ok (.iload_n 1, 1) := by decide +kernel
theorem dX1_openDays_11 : decode cX1_openDays 11 = .ok (.aload_n 0, 1) := by decide +kernel
theorem dX1_openDays_12 : decode cX1_openDays 12 = .ok (.getfield 15, 3) := by decide +kernel
theorem dX1_openDays_15 : decode cX1_openDays 15 = .ok (.iload_n 2, 1) := by decide +kernel
theorem dX1_openDays_16 : decode cX1_openDays 16 = .ok (.iaload, 1) := by decide +kernel
theorem dX1_openDays_17 : decode cX1_openDays 17 = .ok (.iadd, 1) := by decide +kernel
theorem dX1_openDays_18 : decode cX1_openDays 18 = .ok (.istore_n 1, 1) := by decide +kernel
theorem dX1_openDays_19 : decode cX1_openDays 19 = .ok (.iinc 2 1, 3) := by decide +kernel
theorem dX1_openDays_22 : decode cX1_openDays 22 = .ok (.goto (-18), 3) := by decide +kernel
theorem dX1_openDays_25 : decode cX1_openDays 25 = .ok (.iload_n 1, 1) := by decide +kernel
theorem dX1_openDays_26 : decode cX1_openDays 26 = .ok (.ireturn, 1) := by decide +kernel
theorem dX1_allHunger_0 : decode cX1_allHunger 0 = .ok (.iconst 0, 1) := by decide +kernel
theorem dX1_allHunger_1 : decode cX1_allHunger 1 = .ok (.istore_n 1, 1) := by decide +kernel
theorem dX1_allHunger_2 : decode cX1_allHunger 2 = .ok (.iconst 0, 1) := by decide +kernel
theorem dX1_allHunger_3 : decode cX1_allHunger 3 = .ok (.istore_n 2, 1) := by decide +kernel
theorem dX1_allHunger_4 : decode cX1_allHunger 4 = .ok (.iload_n 2, 1) := by decide +kernel
theorem dX1_allHunger_5 : decode cX1_allHunger 5 = .ok (.aload_n 0, 1) := by decide +kernel
theorem dX1_allHunger_6 : decode cX1_allHunger 6 = .ok (.getfield 32, 3) := by decide +kernel
theorem dX1_allHunger_9 : decode cX1_allHunger 9 = .ok (.if_icmp .ge 20, 3) := by decide +kernel
theorem dX1_allHunger_12 : decode cX1_allHunger 12 = .ok (.iload_n 1, 1) := by decide +kernel
theorem dX1_allHunger_13 : decode cX1_allHunger 13 = .ok (.aload_n 0, 1) := by decide +kernel
theorem dX1_allHunger_14 : decode cX1_allHunger 14 = .ok (.getfield 23, 3) := by decide +kernel
theorem dX1_allHunger_17 : decode cX1_allHunger 17 = .ok (.iload_n 2, 1) := by decide +kernel
theorem dX1_allHunger_18 : decode cX1_allHunger 18 = .ok (.aaload, 1) := by decide +kernel
theorem dX1_allHunger_19 : decode cX1_allHunger 19 = .ok (.iconst 1, 1) := by decide +kernel
theorem dX1_allHunger_20 : decode cX1_allHunger 20 = .ok (.iaload, 1) := by decide +kernel
theorem dX1_allHunger_21 : decode cX1_allHunger 21 = .ok (.iadd, 1) := by decide +kernel
theorem dX1_allHunger_22 : decode cX1_allHunger 22 = .ok (.istore_n 1, 1) := by decide +kernel
theorem dX1_allHunger_23 : decode cX1_allHunger 23 = .ok (.iinc 2 1, 3) := by decide +kernel
theorem dX1_allHunger_26 : decode cX1_allHunger 26 = .ok (.goto (-22), 3) := by decide +kernel
theorem dX1_allHunger_29 : decode cX1_allHunger 29 = .ok (.iload_n 1, 1) := by decide +kernel
theorem dX1_allHunger_30 : decode cX1_allHunger 30 = .ok (.ireturn, 1) := by decide +kernel
theorem dX1_takeIn_0 : decode cX1_takeIn 0 = .ok (.aload_n 0, 1) := by decide +kernel
theorem dX1_takeIn_1 : decode cX1_takeIn 1 = .ok (.getfield 32, 3) := by decide +kernel
theorem dX1_takeIn_4 : decode cX1_takeIn 4 = .ok (.iconst 4, 1) := by decide +kernel
theorem dX1_takeIn_5 : decode cX1_takeIn 5 = .ok (.if_icmp .ge 14, 3) := by decide +kernel
theorem dX1_takeIn_8 : decode cX1_takeIn 8 = .ok (.iload 4, 2) := by decide +kernel
theorem dX1_takeIn_10 : decode cX1_takeIn 10 = .ok (.iconst 1, 1) := by decide +kernel
theorem dX1_takeIn_11 : decode cX1_takeIn 11 = .ok (.bipush 10, 2) := by decide +kernel
theorem dX1_takeIn_13 : decode cX1_takeIn 13 = .ok (.invokestatic 42, 3) := by decide +kernel
theorem dX1_takeIn_16 : decode cX1_takeIn 16 = .ok (.ifCond .ne 5, 3) := by decide +kernel
theorem dX1_takeIn_19 : decode cX1_takeIn 19 = .ok (.iconst 0, 1) := by decide +kernel
theorem dX1_takeIn_20 : decode cX1_takeIn 20 = .ok (.ireturn, 1) := by decide +kernel
theorem dX1_takeIn_21 : decode cX1_takeIn 21 = .ok (.aload_n 0, 1) := by decide +kernel
theorem dX1_takeIn_22 : decode cX1_takeIn 22 = .ok (.getfield 23, 3) := by decide +kernel
theorem dX1_takeIn_25 : decode cX1_takeIn 25 = .ok (.aload_n 0, 1) := by decide +kernel
theorem dX1_takeIn_26 : decode cX1_takeIn 26 = .ok (.getfield 32, 3) := by decide +kernel
theorem dX1_takeIn_29 : decode cX1_takeIn 29 = .ok (.aaload, 1) := by decide +kernel
theorem dX1_takeIn_30 : decode cX1_takeIn 30 = .ok (.astore 5, 2) := by decide +kernel
theorem dX1_takeIn_32 : decode cX1_takeIn 32 = .ok (.aload 5, 2) := by decide +kernel
theorem dX1_takeIn_34 : decode cX1_takeIn 34 = .ok (.iconst 0, 1) := by decide +kernel
theorem dX1_takeIn_35 : decode cX1_takeIn 35 = .ok (.iload_n 1, 1) := by decide +kernel
theorem dX1_takeIn_36 : decode cX1_takeIn 36 = .ok (.iastore, 1) := by decide +kernel
theorem dX1_takeIn_37 : decode cX1_takeIn 37 = .ok (.aload 5, 2) := by decide +kernel
theorem dX1_takeIn_39 : decode cX1_takeIn 39 = .ok (.iconst 1, 1) := by decide +kernel
theorem dX1_takeIn_40 : decode cX1_takeIn 40 = .ok (.iload_n 2, 1) := by decide +kernel
theorem dX1_takeIn_41 : decode cX1_takeIn 41 = .ok (.iastore, 1) := by decide +kernel
theorem dX1_takeIn_42 : decode cX1_takeIn 42 = .ok (.aload 5, 2) := by decide +kernel
theorem dX1_takeIn_44 : decode cX1_takeIn 44 = .ok (.iconst 2, 1) := by decide +kernel
theorem dX1_takeIn_45 : decode cX1_takeIn 45 = .ok (.iload_n 3, 1) := by decide +kernel
theorem dX1_takeIn_46 : decode cX1_takeIn 46 = .ok (.iastore, 1) := by decide +kernel
theorem dX1_takeIn_47 : decode cX1_takeIn 47 = .ok (.aload 5, 2) := by decide +kernel
theorem dX1_takeIn_49 : decode cX1_takeIn 49 = .ok (.iconst 3, 1) := by decide +kernel
theorem dX1_takeIn_50 : decode cX1_takeIn 50 = .ok (.iload 4, 2) := by decide +kernel
theorem dX1_takeIn_52 : decode cX1_takeIn 52 = .ok (.iastore, 1) := by decide +kernel
theorem dX1_takeIn_53 : decode cX1_takeIn 53 = .ok (.aload_n 0, 1) := by decide +kernel
theorem dX1_takeIn_54 : decode cX1_takeIn 54 = .ok (.dup, 1) := by decide +kernel
theorem dX1_takeIn_55 : decode cX1_takeIn 55 = .ok (.getfield 32, 3) := by decide +kernel
theorem dX1_takeIn_58 : decode cX1_takeIn 58 = .ok (.iconst 1, 1) := by decide +kernel
theorem dX1_takeIn_59 : decode cX1_takeIn 59 = .ok (.iadd, 1) := by decide +kernel
theorem dX1_takeIn_60 : decode cX1_takeIn 60 = .ok (.putfield 32, 3) := by decide +kernel
theorem dX1_takeIn_63 : decode cX1_takeIn 63 = .ok (.iconst 1, 1) := by decide +kernel
theorem dX1_takeIn_64 : decode cX1_takeIn 64 = .ok (.ireturn, 1) := by decide +kernel
theorem dX1_putSlices_0 : decode cX1_putSlices 0 = .ok (.iload_n 1, 1) := by decide +kernel
theorem dX1_putSlices_1 : decode cX1_putSlices 1 = .ok (.invokestatic 46, 3) := by decide +kernel
theorem dX1_putSlices_4 : decode cX1_putSlices 4 = .ok (.ifCond .eq 13, 3) := by decide +kernel
theorem dX1_putSlices_7 : decode cX1_putSlices 7 = .ok (.iload_n 2, 1) := by decide +kernel
theorem dX1_putSlices_8 : decode cX1_putSlices 8 = .ok (.iconst 0, 1) := by decide +kernel
theorem dX1_putSlices_9 : decode cX1_putSlices 9 = .ok (.bipush 60, 2) := by decide +kernel
theorem dX1_putSlices_11 : decode cX1_putSlices 11 = .ok (.invokestatic 42, 3) := by decide +kernel
theorem dX1_putSlices_14 : decode cX1_putSlices 14 = .ok (.ifCond .ne 5, 3) := by decide +kernel
theorem dX1_putSlices_17 : decode cX1_putSlices 17 = .ok (.iconst 0, 1) := by decide +kernel
theorem dX1_putSlices_18 : decode cX1_putSlices 18 = .ok (.ireturn, 1) := by decide +kernel
theorem dX1_putSlices_19 : decode cX1_putSlices 19 = .ok (.aload_n 0, 1) := by decide +kernel
theorem dX1_putSlices_20 : decode cX1_putSlices 20 = .ok (.getfield 9, 3) := by decide +kernel
theorem dX1_putSlices_23 : decode cX1_putSlices 23 = .ok (.iload_n 1, 1) := by decide +kernel
theorem dX1_putSlices_24 : decode cX1_putSlices 24 = .ok (.iload_n 2, 1) := by decide +kernel
theorem dX1_putSlices_25 : decode cX1_putSlices 25 = .ok (.iastore, 1) := by decide +kernel
theorem dX1_putSlices_26 : decode cX1_putSlices 26 = .ok (.iconst 1, 1) := by decide +kernel
theorem dX1_putSlices_27 : decode cX1_putSlices 27 = .ok (.ireturn, 1) := by decide +kernel
theorem dX1_change_0 : decode cX1_change 0 = .ok (.iload_n 2, 1) := by decide +kernel
theorem dX1_change_1 : decode cX1_change 1 = .ok (.iconst 0, 1) := by decide +kernel
theorem dX1_change_2 : decode cX1_change 2 = .ok (.getstatic 50, 3) := by decide +kernel
theorem dX1_change_5 : decode cX1_change 5 = .ok (.iload_n 1, 1) := by decide +kernel
theorem dX1_change_6 : decode cX1_change 6 = .ok (.iaload, 1) := by decide +kernel
theorem dX1_change_7 : decode cX1_change 7 = .ok (.invokestatic 42, 3) := by decide +kernel
theorem dX1_change_10 : decode cX1_change 10 = .ok (.ifCond .ne 5, 3) := by decide +kernel
theorem dX1_change_13 : decode cX1_change 13 = .ok (.iconst 0, 1) := by decide +kernel
theorem dX1_change_14 : decode cX1_change 14 = .ok (.ireturn, 1) := by decide +kernel
theorem dX1_change_15 : decode cX1_change 15 = .ok (.aload_n 0, 1) := by decide +kernel
theorem dX1_change_16 : decode cX1_change 16 = .ok (.getfield 18, 3) := by decide +kernel
theorem dX1_change_19 : decode cX1_change 19 = .ok (.iload_n 1, 1) := by decide +kernel
theorem dX1_change_20 : decode cX1_change 20 = .ok (.iload_n 2, 1) := by decide +kernel
theorem dX1_change_21 : decode cX1_change 21 = .ok (.iastore, 1) := by decide +kernel
theorem dX1_change_22 : decode cX1_change 22 = .ok (.iconst 1, 1) := by decide +kernel
theorem dX1_change_23 : decode cX1_change 23 = .ok (.ireturn, 1) := by decide +kernel
theorem dX1_loseOldest_0 : decode cX1_loseOldest 0 = .ok (.iload_n 1, 1) := by decide +kernel
theorem dX1_loseOldest_1 : decode cX1_loseOldest 1 = .ok (.istore_n 2, 1) := by decide +kernel
theorem dX1_loseOldest_2 : decode cX1_loseOldest 2 = .ok (.iconst 4, 1) := by decide +kernel
theorem dX1_loseOldest_3 : decode cX1_loseOldest 3 = .ok (.istore_n 3, 1) := by decide +kernel
theorem dX1_loseOldest_4 : decode cX1_loseOldest 4 = .ok (.iload_n 3, 1) := by decide +kernel
theorem dX1_loseOldest_5 : decode cX1_loseOldest 5 = .ok (.ifCond .lt 37, 3) := by decide +kernel
theorem dX1_loseOldest_8 : decode cX1_loseOldest 8 = .ok (.iload_n 2, 1) := by decide +kernel
theorem dX1_loseOldest_9 : decode cX1_loseOldest 9 = .ok (.aload_n 0, 1) := by decide +kernel
theorem dX1_loseOldest_10 : decode cX1_loseOldest 10 = .ok (.getfield 9, 3) := by decide +kernel
theorem dX1_loseOldest_13 : decode cX1_loseOldest 13 = .ok (.iload_n 3, 1) := by decide +kernel
theorem dX1_loseOldest_14 : decode cX1_loseOldest 14 = .ok (.iaload, 1) := by decide +kernel
theorem dX1_loseOldest_15 : decode cX1_loseOldest 15 = .ok (.invokestatic 53, 3) := by decide +kernel
theorem dX1_loseOldest_18 : decode cX1_loseOldest 18 = .ok (.istore 4, 2) := by decide +kernel
theorem dX1_loseOldest_20 : decode cX1_loseOldest 20 = .ok (.aload_n 0, 1) := by decide +kernel
theorem dX1_loseOldest_21 : decode cX1_loseOldest 21 = .ok (.getfield 9, 3) := by decide +kernel
theorem dX1_loseOldest_24 : decode cX1_loseOldest 24 = .ok (.iload_n 3, 1) := by decide +kernel
theorem dX1_loseOldest_25 : decode cX1_loseOldest 25 = .ok (.dup2, 1) := by decide +kernel
theorem dX1_loseOldest_26 : decode cX1_loseOldest 26 = .ok (.iaload, 1) := by decide +kernel
theorem dX1_loseOldest_27 : decode cX1_loseOldest 27 = .ok (.iload 4, 2) := by decide +kernel
theorem dX1_loseOldest_29 : decode cX1_loseOldest 29 = .ok (.isub, 1) := by decide +kernel
theorem dX1_loseOldest_30 : decode cX1_loseOldest 30 = .ok (.iastore, 1) := by decide +kernel
theorem dX1_loseOldest_31 : decode cX1_loseOldest 31 = .ok (.iload_n 2, 1) := by decide +kernel
theorem dX1_loseOldest_32 : decode cX1_loseOldest 32 = .ok (.iload 4, 2) := by decide +kernel
theorem dX1_loseOldest_34 : decode cX1_loseOldest 34 = .ok (.isub, 1) := by decide +kernel
theorem dX1_loseOldest_35 : decode cX1_loseOldest 35 = .ok (.istore_n 2, 1) := by decide +kernel
theorem dX1_loseOldest_36 : decode cX1_loseOldest 36 = .ok (.iinc 3 (-1), 3) := by decide +kernel
theorem dX1_loseOldest_39 : decode cX1_loseOldest 39 = .ok (.goto (-35), 3) := by decide +kernel
theorem dX1_loseOldest_42 : decode cX1_loseOldest 42 = .ok (.return_, 1) := by decide +kernel
theorem dX1_passDay_0 : decode cX1_passDay 0 = .ok (.aload_n 0, 1) := by decide +kernel
theorem dX1_passDay_1 : decode cX1_passDay 1 = .ok (.aload_n 1, 1) := by decide +kernel
theorem dX1_passDay_2 : decode cX1_passDay 2 = .ok (.invokevirtual 59, 3) := by decide +kernel
theorem dX1_passDay_5 : decode cX1_passDay 5 = .ok (.iconst 0, 1) := by decide +kernel
theorem dX1_passDay_6 : decode cX1_passDay 6 = .ok (.istore_n 2, 1) := by decide +kernel
theorem dX1_passDay_7 : decode cX1_passDay 7 = .ok (.iload_n 2, 1) := by decide +kernel
theorem dX1_passDay_8 : decode cX1_passDay 8 = .ok (.aload_n 0, 1) := by decide +kernel
theorem dX1_passDay_9 : decode cX1_passDay 9 = .ok (.getfield 32, 3) := by decide +kernel
theorem dX1_passDay_12 : decode cX1_passDay 12 = .ok (.if_icmp .ge 15, 3) := by decide +kernel
theorem dX1_passDay_15 : decode cX1_passDay 15 = .ok (.aload_n 0, 1) := by decide +kernel
theorem dX1_passDay_16 : decode cX1_passDay 16 = .ok (.iload_n 2, 1) := by decide +kernel
theorem dX1_passDay_17 : decode cX1_passDay 17 = .ok (.aload_n 1, 1) := by decide +kernel
theorem dX1_passDay_18 : decode cX1_passDay 18 = .ok (.invokevirtual 63, 3) := by decide +kernel
theorem dX1_passDay_21 : decode cX1_passDay 21 = .ok (.iinc 2 1, 3) := by decide +kernel
theorem dX1_passDay_24 : decode cX1_passDay 24 = .ok (.goto (-17), 3) := by decide +kernel
theorem dX1_passDay_27 : decode cX1_passDay 27 = .ok (.aload_n 1, 1) := by decide +kernel
theorem dX1_passDay_28 : decode cX1_passDay 28 = .ok (.aload_n 0, 1) := by decide +kernel
theorem dX1_passDay_29 : decode cX1_passDay 29 = .ok (.getfield 9, 3) := by decide +kernel
theorem dX1_passDay_32 : decode cX1_passDay 32 = .ok (.iconst 4, 1) := by decide +kernel
theorem dX1_passDay_33 : decode cX1_passDay 33 = .ok (.iaload, 1) := by decide +kernel
theorem dX1_passDay_34 : decode cX1_passDay 34 = .ok (.aload_n 0, 1) := by decide +kernel
theorem dX1_passDay_35 : decode cX1_passDay 35 = .ok (.getfield 18, 3) := by decide +kernel
theorem dX1_passDay_38 : decode cX1_passDay 38 = .ok (.iconst 3, 1) := by decide +kernel
theorem dX1_passDay_39 : decode cX1_passDay 39 = .ok (.iaload, 1) := by decide +kernel
theorem dX1_passDay_40 : decode cX1_passDay 40 = .ok (.invokevirtual 67, 3) := by decide +kernel
theorem dX1_passDay_43 : decode cX1_passDay 43 = .ok (.iconst 4, 1) := by decide +kernel
theorem dX1_passDay_44 : decode cX1_passDay 44 = .ok (.istore_n 2, 1) := by decide +kernel
theorem dX1_passDay_45 : decode cX1_passDay 45 = .ok (.iload_n 2, 1) := by decide +kernel
theorem dX1_passDay_46 : decode cX1_passDay 46 = .ok (.ifCond .le 23, 3) := by decide +kernel
theorem dX1_passDay_49 : decode cX1_passDay 49 = .ok (.aload_n 0, 1) := by decide +kernel
theorem dX1_passDay_50 : decode cX1_passDay 50 = .ok (.getfield 9, 3) := by decide +kernel
theorem dX1_passDay_53 : decode cX1_passDay 53 = .ok (.iload_n 2, 1) := by decide +kernel
theorem dX1_passDay_54 : decode cX1_passDay 54 = .ok (.aload_n 0, 1) := by decide +kernel
theorem dX1_passDay_55 : decode cX1_passDay 55 = .ok (.getfield 9, 3) := by decide +kernel
theorem dX1_passDay_58 : decode cX1_passDay 58 = .ok (.iload_n 2, 1) := by decide +kernel
theorem dX1_passDay_59 : decode cX1_passDay 59 = .ok (.iconst 1, 1) := by decide +kernel
theorem dX1_passDay_60 : decode cX1_passDay 60 = .ok (.isub, 1) := by decide +kernel
theorem dX1_passDay_61 : decode cX1_passDay 61 = .ok (.iaload, 1) := by decide +kernel
theorem dX1_passDay_62 : decode cX1_passDay 62 = .ok (.iastore, 1) := by decide +kernel
theorem dX1_passDay_63 : decode cX1_passDay 63 = .ok (.iinc 2 (-1), 3) := by decide +kernel
theorem dX1_passDay_66 : decode cX1_passDay 66 = .ok (.goto (-21), 3) := by decide +kernel
theorem dX1_passDay_69 : decode cX1_passDay 69 = .ok (.aload_n 0, 1) := by decide +kernel
theorem dX1_passDay_70 : decode cX1_passDay 70 = .ok (.getfield 9, 3) := by decide +kernel
theorem dX1_passDay_73 : decode cX1_passDay 73 = .ok (.iconst 0, 1) := by decide +kernel
theorem dX1_passDay_74 : decode cX1_passDay 74 = .ok (.iconst 0, 1) := by decide +kernel
theorem dX1_passDay_75 : decode cX1_passDay 75 = .ok (.iastore, 1) := by decide +kernel
theorem dX1_passDay_76 : decode cX1_passDay 76 = .ok (.aload_n 0, 1) := by decide +kernel
theorem dX1_passDay_77 : decode cX1_passDay 77 = .ok (.dup, 1) := by decide +kernel
theorem dX1_passDay_78 : decode cX1_passDay 78 = .ok (.getfield 36, 3) := by decide +kernel
theorem dX1_passDay_81 : decode cX1_passDay 81 = .ok (.iconst 1, 1) := by decide +kernel
theorem dX1_passDay_82 : decode cX1_passDay 82 = .ok (.iadd, 1) := by decide +kernel
theorem dX1_passDay_83 : decode cX1_passDay 83 = .ok (.putfield 36, 3) := by decide +kernel
theorem dX1_passDay_86 : decode cX1_passDay 86 = .ok (.return_, 1) := by decide +kernel
theorem dX1_shop_0 : decode cX1_shop 0 = .ok (.aload_n 0, 1) := by decide +kernel
theorem dX1_shop_1 : decode cX1_shop 1 = .ok (.getfield 15, 3) := by decide +kernel
theorem dX1_shop_4 : decode cX1_shop 4 = .ok (.aload_n 0, 1) := by decide +kernel
theorem dX1_shop_5 : decode cX1_shop 5 = .ok (.getfield 36, 3) := by decide +kernel
theorem dX1_shop_8 : decode cX1_shop 8 = .ok (.bipush 7, 2) := by decide +kernel
theorem dX1_shop_10 : decode cX1_shop 10 = .ok (.irem, 1) := by decide +kernel
theorem dX1_shop_11 : decode cX1_shop 11 = .ok (.iaload, 1) := by decide +kernel
theorem dX1_shop_12 : decode cX1_shop 12 = .ok (.ifCond .ne 4, 3) := by decide +kernel
theorem dX1_shop_15 : decode cX1_shop 15 = .ok (.return_, 1) := by decide +kernel
theorem dX1_shop_16 : decode cX1_shop 16 = .ok (.aload_n 1, 1) := by decide +kernel
theorem dX1_shop_17 : decode cX1_shop 17 = .ok (.aload_n 0, 1) := by decide +kernel
theorem dX1_shop_18 : decode cX1_shop 18 = .ok (.iconst 0, 1) := by decide +kernel
theorem dX1_shop_19 : decode cX1_shop 19 = .ok (.aload_n 0, 1) := by decide +kernel
theorem dX1_shop_20 : decode cX1_shop 20 = .ok (.getfield 18, 3) := by decide +kernel
theorem dX1_shop_23 : decode cX1_shop 23 = .ok (.iconst 0, 1) := by decide +kernel
theorem dX1_shop_24 : decode cX1_shop 24 = .ok (.iaload, 1) := by decide +kernel
theorem dX1_shop_25 : decode cX1_shop 25 = .ok (.aload_n 0, 1) := by decide +kernel
theorem dX1_shop_26 : decode cX1_shop 26 = .ok (.getfield 39, 3) := by decide +kernel
theorem dX1_shop_29 : decode cX1_shop 29 = .ok (.isub, 1) := by decide +kernel
theorem dX1_shop_30 : decode cX1_shop 30 = .ok (.invokevirtual 73, 3) := by decide +kernel
theorem dX1_shop_33 : decode cX1_shop 33 = .ok (.aload_n 0, 1) := by decide +kernel
theorem dX1_shop_34 : decode cX1_shop 34 = .ok (.getfield 18, 3) := by decide +kernel
theorem dX1_shop_37 : decode cX1_shop 37 = .ok (.iconst 2, 1) := by decide +kernel
theorem dX1_shop_38 : decode cX1_shop 38 = .ok (.iaload, 1) := by decide +kernel
theorem dX1_shop_39 : decode cX1_shop 39 = .ok (.invokevirtual 76, 3) := by decide +kernel
theorem dX1_shop_42 : decode cX1_shop 42 = .ok (.aload_n 0, 1) := by decide +kernel
theorem dX1_shop_43 : decode cX1_shop 43 = .ok (.iconst 0, 1) := by decide +kernel
theorem dX1_shop_44 : decode cX1_shop 44 = .ok (.putfield 39, 3) := by decide +kernel
theorem dX1_shop_47 : decode cX1_shop 47 = .ok (.aload_n 0, 1) := by decide +kernel
theorem dX1_shop_48 : decode cX1_shop 48 = .ok (.getfield 15, 3) := by decide +kernel
theorem dX1_shop_51 : decode cX1_shop 51 = .ok (.aload_n 0, 1) := by decide +kernel
theorem dX1_shop_52 : decode cX1_shop 52 = .ok (.getfield 36, 3) := by decide +kernel
theorem dX1_shop_55 : decode cX1_shop 55 = .ok (.iconst 1, 1) := by decide +kernel
theorem dX1_shop_56 : decode cX1_shop 56 = .ok (.iadd, 1) := by decide +kernel
theorem dX1_shop_57 : decode cX1_shop 57 = .ok (.bipush 7, 2) := by decide +kernel
theorem dX1_shop_59 : decode cX1_shop 59 = .ok (.irem, 1) := by decide +kernel
theorem dX1_shop_60 : decode cX1_shop 60 = .ok (.iaload, 1) := by decide +kernel
theorem dX1_shop_61 : decode cX1_shop 61 = .ok (.ifCond .ne 24, 3) := by decide +kernel
theorem dX1_shop_64 : decode cX1_shop 64 = .ok (.aload_n 1, 1) := by decide +kernel
theorem dX1_shop_65 : decode cX1_shop 65 = .ok (.aload_n 0, 1) := by decide +kernel
theorem dX1_shop_66 : decode cX1_shop 66 = .ok (.iconst 0, 1) := by decide +kernel
theorem dX1_shop_67 : decode cX1_shop 67 = .ok (.aload_n 0, 1) := by decide +kernel
theorem dX1_shop_68 : decode cX1_shop 68 = .ok (.getfield 18, 3) := by decide +kernel
theorem dX1_shop_71 : decode cX1_shop 71 = .ok (.iconst 0, 1) := by decide +kernel
theorem dX1_shop_72 : decode cX1_shop 72 = .ok (.iaload, 1) := by decide +kernel
theorem dX1_shop_73 : decode cX1_shop 73 = .ok (.invokevirtual 73, 3) := by decide +kernel
theorem dX1_shop_76 : decode cX1_shop 76 = .ok (.aload_n 0, 1) := by decide +kernel
theorem dX1_shop_77 : decode cX1_shop 77 = .ok (.getfield 18, 3) := by decide +kernel
theorem dX1_shop_80 : decode cX1_shop 80 = .ok (.iconst 2, 1) := by decide +kernel
theorem dX1_shop_81 : decode cX1_shop 81 = .ok (.iaload, 1) := by decide +kernel
theorem dX1_shop_82 : decode cX1_shop 82 = .ok (.invokevirtual 76, 3) := by decide +kernel
theorem dX1_shop_85 : decode cX1_shop 85 = .ok (.aload_n 1, 1) := by decide +kernel
theorem dX1_shop_86 : decode cX1_shop 86 = .ok (.aload_n 0, 1) := by decide +kernel
theorem dX1_shop_87 : decode cX1_shop 87 = .ok (.iconst 1, 1) := by decide +kernel
theorem dX1_shop_88 : decode cX1_shop 88 = .ok (.aload_n 0, 1) := by decide +kernel
theorem dX1_shop_89 : decode cX1_shop 89 = .ok (.getfield 18, 3) := by decide +kernel
theorem dX1_shop_92 : decode cX1_shop 92 = .ok (.iconst 1, 1) := by decide +kernel
theorem dX1_shop_93 : decode cX1_shop 93 = .ok (.iaload, 1) := by decide +kernel
theorem dX1_shop_94 : decode cX1_shop 94 = .ok (.invokevirtual 73, 3) := by decide +kernel
theorem dX1_shop_97 : decode cX1_shop 97 = .ok (.aload_n 0, 1) := by decide +kernel
theorem dX1_shop_98 : decode cX1_shop 98 = .ok (.getfield 18, 3) := by decide +kernel
theorem dX1_shop_101 : decode cX1_shop 101 = .ok (.iconst 2, 1) := by decide +kernel
theorem dX1_shop_102 : decode cX1_shop 102 = .ok (.iaload, 1) := by decide +kernel
theorem dX1_shop_103 : decode cX1_shop 103 = .ok (.iconst 2, 1) := by decide +kernel
theorem dX1_shop_104 : decode cX1_shop 104 = .ok (.idiv, 1) := by decide +kernel
theorem dX1_shop_105 : decode cX1_shop 105 = .ok (.invokevirtual 76, 3) := by decide +kernel
theorem dX1_shop_108 : decode cX1_shop 108 = .ok (.return_, 1) := by decide +kernel
theorem dX1_bring_0 : decode cX1_bring 0 = .ok (.iload_n 2, 1) := by decide +kernel
theorem dX1_bring_1 : decode cX1_bring 1 = .ok (.bipush 60, 2) := by decide +kernel
theorem dX1_bring_3 : decode cX1_bring 3 = .ok (.aload_n 0, 1) := by decide +kernel
theorem dX1_bring_4 : decode cX1_bring 4 = .ok (.getfield 9, 3) := by decide +kernel
theorem dX1_bring_7 : decode cX1_bring 7 = .ok (.iload_n 1, 1) := by decide +kernel
theorem dX1_bring_8 : decode cX1_bring 8 = .ok (.iaload, 1) := by decide +kernel
theorem dX1_bring_9 : decode cX1_bring 9 = .ok (.isub, 1) := by decide +kernel
theorem dX1_bring_10 : decode cX1_bring 10 = .ok (.invokestatic 53, 3) := by decide +kernel
theorem dX1_bring_13 : decode cX1_bring 13 = .ok (.istore_n 3, 1) := by decide +kernel
theorem dX1_bring_14 : decode cX1_bring 14 = .ok (.aload_n 0, 1) := by decide +kernel
theorem dX1_bring_15 : decode cX1_bring 15 = .ok (.getfield 9, 3) := by decide +kernel
theorem dX1_bring_18 : decode cX1_bring 18 = .ok (.iload_n 1, 1) := by decide +kernel
theorem dX1_bring_19 : decode cX1_bring 19 = .ok (.dup2, 1) := by decide +kernel
theorem dX1_bring_20 : decode cX1_bring 20 = .ok (.iaload, 1) := by decide +kernel
theorem dX1_bring_21 : decode cX1_bring 21 = .ok (.iload_n 3, 1) := by decide +kernel
theorem dX1_bring_22 : decode cX1_bring 22 = .ok (.iadd, 1) := by decide +kernel
theorem dX1_bring_23 : decode cX1_bring 23 = .ok (.iastore, 1) := by decide +kernel
theorem dX1_bring_24 : decode cX1_bring 24 = .ok (.iload_n 3, 1) := by decide +kernel
theorem dX1_bring_25 : decode cX1_bring 25 = .ok (.ireturn, 1) := by decide +kernel
theorem dX1_feed_0 : decode cX1_feed 0 = .ok (.aload_n 0, 1) := by decide +kernel
theorem dX1_feed_1 : decode cX1_feed 1 = .ok (.getfield 23, 3) := by decide +kernel
theorem dX1_feed_4 : decode cX1_feed 4 = .ok (.iload_n 1, 1) := by decide +kernel
theorem dX1_feed_5 : decode cX1_feed 5 = .ok (.aaload, 1) := by decide +kernel
theorem dX1_feed_6 : decode cX1_feed 6 = .ok (.iconst 1, 1) := by decide +kernel
theorem dX1_feed_7 : decode cX1_feed 7 = .ok (.iaload, 1) := by decide +kernel
theorem dX1_feed_8 : decode cX1_feed 8 = .ok (.istore_n 3, 1) := by decide +kernel
theorem dX1_feed_9 : decode cX1_feed 9 = .ok (.aload_n 0, 1) := by decide +kernel
theorem dX1_feed_10 : decode cX1_feed 10 = .ok (.getfield 18, 3) := by decide +kernel
theorem dX1_feed_13 : decode cX1_feed 13 = .ok (.iconst 5, 1) := by decide +kernel
theorem dX1_feed_14 : decode cX1_feed 14 = .ok (.iaload, 1) := by decide +kernel
theorem dX1_feed_15 : decode cX1_feed 15 = .ok (.iconst 5, 1) := by decide +kernel
theorem dX1_feed_16 : decode cX1_feed 16 = .ok (.if_icmp .ne 9, 3) := by decide +kernel
theorem dX1_feed_19 : decode cX1_feed 19 = .ok (.iload_n 3, 1) := by decide +kernel
theorem dX1_feed_20 : decode cX1_feed 20 = .ok (.iconst 1, 1) := by decide +kernel
theorem dX1_feed_21 : decode cX1_feed 21 = .ok (.isub, 1) := by decide +kernel
theorem dX1_feed_22 : decode cX1_feed 22 = .ok (.goto 4, 3) := by decide +kernel
theorem dX1_feed_25 : decode cX1_feed 25 = .ok (.iload_n 3, 1) := by decide +kernel
theorem dX1_feed_26 : decode cX1_feed 26 = .ok (.istore 4, 2) := by decide +kernel
theorem dX1_feed_28 : decode cX1_feed 28 = .ok (.iconst 0, 1) := by decide +kernel
theorem dX1_feed_29 : decode cX1_feed 29 = .ok (.istore 5, 2) := by decide +kernel
theorem dX1_feed_31 : decode cX1_feed 31 = .ok (.iconst 0, 1) := by decide +kernel
theorem dX1_feed_32 : decode cX1_feed 32 = .ok (.istore 6, 2) := by decide +kernel
theorem dX1_feed_34 : decode cX1_feed 34 = .ok (.iload 6, 2) := by decide +kernel
theorem dX1_feed_36 : decode cX1_feed 36 = .ok (.iconst 5, 1) := by decide +kernel
theorem dX1_feed_37 : decode cX1_feed 37 = .ok (.if_icmp .ge 81, 3) := by decide +kernel
theorem dX1_feed_40 : decode cX1_feed 40 = .ok (.iload 5, 2) := by decide +kernel
theorem dX1_feed_42 : decode cX1_feed 42 = .ok (.iload 4, 2) := by decide +kernel
theorem dX1_feed_44 : decode cX1_feed 44 = .ok (.if_icmp .ge 74, 3) := by decide +kernel
theorem dX1_feed_47 : decode cX1_feed 47 = .ok (.aload_n 0, 1) := by decide +kernel
theorem dX1_feed_48 : decode cX1_feed 48 = .ok (.iload_n 1, 1) := by decide +kernel
theorem dX1_feed_49 : decode cX1_feed 49 = .ok (.invokevirtual 79, 3) := by decide +kernel
theorem dX1_feed_52 : decode cX1_feed 52 = .ok (.istore 7, 2) := by decide +kernel
theorem dX1_feed_54 : decode cX1_feed 54 = .ok (.iload 7, 2) := by decide +kernel
theorem dX1_feed_56 : decode cX1_feed 56 = .ok (.ifCond .ge 6, 3) := by decide +kernel
theorem dX1_feed_59 : decode cX1_feed 59 = .ok (.goto 59, 3) := by decide +kernel
theorem dX1_feed_62 : decode cX1_feed 62 = .ok (.iload 4, 2) := by decide +kernel
theorem dX1_feed_64 : decode cX1_feed 64 = .ok (.iload 5, 2) := by decide +kernel
theorem dX1_feed_66 : decode cX1_feed 66 = .ok (.isub, 1) := by decide +kernel
theorem dX1_feed_67 : decode cX1_feed 67 = .ok (.aload_n 0, 1) := by decide +kernel
theorem dX1_feed_68 : decode cX1_feed 68 = .ok (.iload 7, 2) := by decide +kernel
theorem dX1_feed_70 : decode cX1_feed 70 = .ok (.invokevirtual 83, 3) := by decide +kernel
theorem dX1_feed_73 : decode cX1_feed 73 = .ok (.invokestatic 53, 3) := by decide +kernel
theorem dX1_feed_76 : decode cX1_feed 76 = .ok (.istore 8, 2) := by decide +kernel
theorem dX1_feed_78 : decode cX1_feed 78 = .ok (.aload_n 0, 1) := by decide +kernel
theorem dX1_feed_79 : decode cX1_feed 79 = .ok (.getfield 9, 3) := by decide +kernel
theorem dX1_feed_82 : decode cX1_feed 82 = .ok (.iload 7, 2) := by decide +kernel
theorem dX1_feed_84 : decode cX1_feed 84 = .ok (.dup2, 1) := by decide +kernel
theorem dX1_feed_85 : decode cX1_feed 85 = .ok (.iaload, 1) := by decide +kernel
theorem dX1_feed_86 : decode cX1_feed 86 = .ok (.iload 8, 2) := by decide +kernel
theorem dX1_feed_88 : decode cX1_feed 88 = .ok (.isub, 1) := by decide +kernel
theorem dX1_feed_89 : decode cX1_feed 89 = .ok (.iastore, 1) := by decide +kernel
theorem dX1_feed_90 : decode cX1_feed 90 = .ok (.iload 5, 2) := by decide +kernel
theorem dX1_feed_92 : decode cX1_feed 92 = .ok (.iload 8, 2) := by decide +kernel
theorem dX1_feed_94 : decode cX1_feed 94 = .ok (.iadd, 1) := by decide +kernel
theorem dX1_feed_95 : decode cX1_feed 95 = .ok (.istore 5, 2) := by decide +kernel
theorem dX1_feed_97 : decode cX1_feed 97 = .ok (.aload_n 2, 1) := by decide +kernel
theorem dX1_feed_98 : decode cX1_feed 98 = .ok (.iload 7, 2) := by decide +kernel
theorem dX1_feed_100 : decode cX1_feed 100 = .ok (.iload 8, 2) := by decide +kernel
theorem dX1_feed_102 : decode cX1_feed 102 = .ok (.aload_n 0, 1) := by decide +kernel
theorem dX1_feed_103 : decode cX1_feed 103 = .ok (.iload_n 1, 1) := by decide +kernel
theorem dX1_feed_104 : decode cX1_feed 104 = .ok (.iload 7, 2) := by decide +kernel
theorem dX1_feed_106 : decode cX1_feed 106 = .ok (.invokevirtual 86, 3) := by decide +kernel
theorem dX1_feed_109 : decode cX1_feed 109 = .ok (.invokevirtual 89, 3) := by decide +kernel
theorem dX1_feed_112 : decode cX1_feed 112 = .ok (.iinc 6 1, 3) := by decide +kernel
theorem dX1_feed_115 : decode cX1_feed 115 = .ok (.goto (-81), 3) := by decide +kernel
theorem dX1_feed_118 : decode cX1_feed 118 = .ok (.aload_n 2, 1) := by decide +kernel
theorem dX1_feed_119 : decode cX1_feed 119 = .ok (.iload_n 3, 1) := by decide +kernel
theorem dX1_feed_120 : decode cX1_feed 120 = .ok (.iload 5, 2) := by decide +kernel
theorem dX1_feed_122 : decode cX1_feed 122 = .ok (.isub, 1) := by decide +kernel
theorem dX1_feed_123 : decode cX1_feed 123 = .ok (.aload_n 0, 1) := by decide +kernel
theorem dX1_feed_124 : decode cX1_feed 124 = .ok (.getfield 18, 3) := by decide +kernel
theorem dX1_feed_127 : decode cX1_feed 127 = .ok (.iconst 4, 1) := by decide +kernel
theorem dX1_feed_128 : decode cX1_feed 128 = .ok (.iaload, 1) := by decide +kernel
theorem dX1_feed_129 : decode cX1_feed 129 = .ok (.invokevirtual 93, 3) := by decide +kernel
theorem dX1_feed_132 : decode cX1_feed 132 = .ok (.return_, 1) := by decide +kernel
theorem dX1_inReach_0 : decode cX1_inReach 0 = .ok (.aload_n 0, 1) := by decide +kernel
theorem dX1_inReach_1 : decode cX1_inReach 1 = .ok (.getfield 18, 3) := by decide +kernel
theorem dX1_inReach_4 : decode cX1_inReach 4 = .ok (.iconst 5, 1) := by decide +kernel
theorem dX1_inReach_5 : decode cX1_inReach 5 = .ok (.iaload, 1) := by decide +kernel
theorem dX1_inReach_6 : decode cX1_inReach 6 = .ok (.istore_n 2, 1) := by decide +kernel
theorem dX1_inReach_7 : decode cX1_inReach 7 = .ok (.iload_n 1, 1) := by decide +kernel
theorem dX1_inReach_8 : decode cX1_inReach 8 = .ok (.ifCond .ne 17, 3) := by decide +kernel
theorem dX1_inReach_11 : decode cX1_inReach 11 = .ok (.iload_n 2, 1) := by decide +kernel
theorem dX1_inReach_12 : decode cX1_inReach 12 = .ok (.iconst 3, 1) := by decide +kernel
theorem dX1_inReach_13 : decode cX1_inReach 13 = .ok (.if_icmp .eq 8, 3) := by decide +kernel
theorem dX1_inReach_16 : decode cX1_inReach 16 = .ok (.iload_n 2, 1) := by decide +kernel
theorem dX1_inReach_17 : decode cX1_inReach 17 = .ok (.iconst 5, 1) := by decide +kernel
theorem dX1_inReach_18 : decode cX1_inReach 18 = .ok (.if_icmp .ne 7, 3) := by decide +kernel
theorem dX1_inReach_21 : decode cX1_inReach 21 = .ok (.iconst 1, 1) := by decide +kernel
theorem dX1_inReach_22 : decode cX1_inReach 22 = .ok (.goto 4, 3) := by decide +kernel
theorem dX1_inReach_25 : decode cX1_inReach 25 = .ok (.iconst 0, 1) := by decide +kernel
theorem dX1_inReach_26 : decode cX1_inReach 26 = .ok (.istore_n 3, 1) := by decide +kernel
theorem dX1_inReach_27 : decode cX1_inReach 27 = .ok (.iload_n 3, 1) := by decide +kernel
theorem dX1_inReach_28 : decode cX1_inReach 28 = .ok (.ifCond .eq 14, 3) := by decide +kernel
theorem dX1_inReach_31 : decode cX1_inReach 31 = .ok (.aload_n 0, 1) := by decide +kernel
theorem dX1_inReach_32 : decode cX1_inReach 32 = .ok (.getfield 9, 3) := by decide +kernel
theorem dX1_inReach_35 : decode cX1_inReach 35 = .ok (.iload_n 1, 1) := by decide +kernel
theorem dX1_inReach_36 : decode cX1_inReach 36 = .ok (.iaload, 1) := by decide +kernel
theorem dX1_inReach_37 : decode cX1_inReach 37 = .ok (.iconst 3, 1) := by decide +kernel
theorem dX1_inReach_38 : decode cX1_inReach 38 = .ok (.isub, 1) := by decide +kernel
theorem dX1_inReach_39 : decode cX1_inReach 39 = .ok (.goto 9, 3) := by decide +kernel
theorem dX1_inReach_42 : decode cX1_inReach 42 = .ok (.aload_n 0, 1) := by decide +kernel
theorem dX1_inReach_43 : decode cX1_inReach 43 = .ok (.getfield 9, 3) := by decide +kernel
theorem dX1_inReach_46 : decode cX1_inReach 46 = .ok (.iload_n 1, 1) := by decide +kernel
theorem dX1_inReach_47 : decode cX1_inReach 47 = .ok (.iaload, 1) := by decide +kernel
theorem dX1_inReach_48 : decode cX1_inReach 48 = .ok (.ireturn, 1) := by decide +kernel
theorem dX1_nextAge_0 : decode cX1_nextAge 0 = .ok (.aload_n 0, 1) := by decide +kernel
theorem dX1_nextAge_1 : decode cX1_nextAge 1 = .ok (.getfield 18, 3) := by decide +kernel
theorem dX1_nextAge_4 : decode cX1_nextAge 4 = .ok (.iconst 5, 1) := by decide +kernel
theorem dX1_nextAge_5 : decode cX1_nextAge 5 = .ok (.iaload, 1) := by decide +kernel
theorem dX1_nextAge_6 : decode cX1_nextAge 6 = .ok (.istore_n 2, 1) := by decide +kernel
theorem dX1_nextAge_7 : decode cX1_nextAge 7 = .ok (.iload_n 2, 1) := by decide +kernel
theorem dX1_nextAge_8 : decode cX1_nextAge 8 = .ok (.iconst 4, 1) := by decide +kernel
theorem dX1_nextAge_9 : decode cX1_nextAge 9 = .ok (.if_icmp .ne 18, 3) := by decide +kernel
theorem dX1_nextAge_12 : decode cX1_nextAge 12 = .ok (.aload_n 0, 1) := by decide +kernel
theorem dX1_nextAge_13 : decode cX1_nextAge 13 = .ok (.getfield 36, 3) := by decide +kernel
theorem dX1_nextAge_16 : decode cX1_nextAge 16 = .ok (.iconst 2, 1) := by decide +kernel
theorem dX1_nextAge_17 : decode cX1_nextAge 17 = .ok (.irem, 1) := by decide +kernel
theorem dX1_nextAge_18 : decode cX1_nextAge 18 = .ok (.ifCond .ne 7, 3) := by decide +kernel
theorem dX1_nextAge_21 : decode cX1_nextAge 21 = .ok (.iconst 2, 1) := by decide +kernel
theorem dX1_nextAge_22 : decode cX1_nextAge 22 = .ok (.goto 4, 3) := by decide +kernel
theorem dX1_nextAge_25 : decode cX1_nextAge 25 = .ok (.iconst 1, 1) := by decide +kernel
theorem dX1_nextAge_26 : decode cX1_nextAge 26 = .ok (.istore_n 2, 1) := by decide +kernel
theorem dX1_nextAge_27 : decode cX1_nextAge 27 = .ok (.iconst (-1), 1) := by decide +kernel
theorem dX1_nextAge_28 : decode cX1_nextAge 28 = .ok (.istore_n 3, 1) := by decide +kernel
theorem dX1_nextAge_29 : decode cX1_nextAge 29 = .ok (.iconst (-1), 1) := by decide +kernel
theorem dX1_nextAge_30 : decode cX1_nextAge 30 = .ok (.istore 4, 2) := by decide +kernel
theorem dX1_nextAge_32 : decode cX1_nextAge 32 = .ok (.iconst 4, 1) := by decide +kernel
theorem dX1_nextAge_33 : decode cX1_nextAge 33 = .ok (.istore 5, 2) := by decide +kernel
theorem dX1_nextAge_35 : decode cX1_nextAge 35 = .ok (.iload 5, 2) := by decide +kernel
theorem dX1_nextAge_37 : decode cX1_nextAge 37 = .ok (.ifCond .lt 67, 3) := by decide +kernel
theorem dX1_nextAge_40 : decode cX1_nextAge 40 = .ok (.aload_n 0, 1) := by decide +kernel
theorem dX1_nextAge_41 : decode cX1_nextAge 41 = .ok (.iload 5, 2) := by decide +kernel
theorem dX1_nextAge_43 : decode cX1_nextAge 43 = .ok (.invokevirtual 83, 3) := by decide +kernel
theorem dX1_nextAge_46 : decode cX1_nextAge 46 = .ok (.ifCond .gt 6, 3) := by decide +kernel
theorem dX1_nextAge_49 : decode cX1_nextAge 49 = .ok (.goto 49, 3) := by decide +kernel
theorem dX1_nextAge_52 : decode cX1_nextAge 52 = .ok (.aload_n 0, 1) := by decide +kernel
theorem dX1_nextAge_53 : decode cX1_nextAge 53 = .ok (.iload_n 1, 1) := by decide +kernel
theorem dX1_nextAge_54 : decode cX1_nextAge 54 = .ok (.iload 5, 2) := by decide +kernel
theorem dX1_nextAge_56 : decode cX1_nextAge 56 = .ok (.invokevirtual 86, 3) := by decide +kernel
theorem dX1_nextAge_59 : decode cX1_nextAge 59 = .ok (.istore 6, 2) := by decide +kernel
theorem dX1_nextAge_61 : decode cX1_nextAge 61 = .ok (.iload 6, 2) := by decide +kernel
theorem dX1_nextAge_63 : decode cX1_nextAge 63 = .ok (.iconst (-1), 1) := by decide +kernel
theorem dX1_nextAge_64 : decode cX1_nextAge 64 = .ok (.if_icmp .ne 6, 3) := by decide +kernel
theorem dX1_nextAge_67 : decode cX1_nextAge 67 = .ok (.goto 31, 3) := by decide +kernel
theorem dX1_nextAge_70 : decode cX1_nextAge 70 = .ok (.iload_n 3, 1) := by decide +kernel
theorem dX1_nextAge_71 : decode cX1_nextAge 71 = .ok (.ifCond .lt 20, 3) := by decide +kernel
theorem dX1_nextAge_74 : decode cX1_nextAge 74 = .ok (.iload_n 2, 1) := by decide +kernel
theorem dX1_nextAge_75 : decode cX1_nextAge 75 = .ok (.iconst 1, 1) := by decide +kernel
theorem dX1_nextAge_76 : decode cX1_nextAge 76 = .ok (.if_icmp .eq 15, 3) := by decide +kernel
theorem dX1_nextAge_79 : decode cX1_nextAge 79 = .ok (.iload_n 2, 1) := by decide +kernel
theorem dX1_nextAge_80 : decode cX1_nextAge 80 = .ok (.iconst 2, 1) := by decide +kernel
theorem dX1_nextAge_81 : decode cX1_nextAge 81 = .ok (.if_icmp .ne 17, 3) := by decide +kernel
theorem dX1_nextAge_84 : decode cX1_nextAge 84 = .ok (.iload 6, 2) := by decide +kernel
theorem dX1_nextAge_86 : decode cX1_nextAge 86 = .ok (.iload 4, 2) := by decide +kernel
theorem dX1_nextAge_88 : decode cX1_nextAge 88 = .ok (.if_icmp .le 10, 3) := by decide +kernel
theorem dX1_nextAge_91 : decode cX1_nextAge 91 = .ok (.iload 5, 2) := by decide +kernel
theorem dX1_nextAge_93 : decode cX1_nextAge 93 = .ok (.istore_n 3, 1) := by decide +kernel
theorem dX1_nextAge_94 : decode cX1_nextAge 94 = .ok (.iload 6, 2) := by decide +kernel
theorem dX1_nextAge_96 : decode cX1_nextAge 96 = .ok (.istore 4, 2) := by decide +kernel
theorem dX1_nextAge_98 : decode cX1_nextAge 98 = .ok (.iinc 5 (-1), 3) := by decide +kernel
theorem dX1_nextAge_101 : decode cX1_nextAge 101 = .ok (.goto (-66), 3) := by decide +kernel
theorem dX1_nextAge_104 : decode cX1_nextAge 104 = .ok (.iload_n 3, 1) := by decide +kernel
theorem dX1_nextAge_105 : decode cX1_nextAge 105 = .ok (.ireturn, 1) := by decide +kernel
theorem dX1_worthTo_0 : decode cX1_worthTo 0 = .ok (.aload_n 0, 1) := by decide +kernel
theorem dX1_worthTo_1 : decode cX1_worthTo 1 = .ok (.getfield 23, 3) := by decide +kernel
theorem dX1_worthTo_4 : decode cX1_worthTo 4 = .ok (.iload_n 1, 1) := by decide +kernel
theorem dX1_worthTo_5 : decode cX1_worthTo 5 = .ok (.aaload, 1) := by decide +kernel
theorem dX1_worthTo_6 : decode cX1_worthTo 6 = .ok (.iconst 2, 1) := by decide +kernel
theorem dX1_worthTo_7 : decode cX1_worthTo 7 = .ok (.iaload, 1) := by decide +kernel
theorem dX1_worthTo_8 : decode cX1_worthTo 8 = .ok (.istore_n 3, 1) := by decide +kernel
theorem dX1_worthTo_9 : decode cX1_worthTo 9 = .ok (.aload_n 0, 1) := by decide +kernel
theorem dX1_worthTo_10 : decode cX1_worthTo 10 = .ok (.getfield 23, 3) := by decide +kernel
theorem dX1_worthTo_13 : decode cX1_worthTo 13 = .ok (.iload_n 1, 1) := by decide +kernel
theorem dX1_worthTo_14 : decode cX1_worthTo 14 = .ok (.aaload, 1) := by decide +kernel
theorem dX1_worthTo_15 : decode cX1_worthTo 15 = .ok (.iconst 0, 1) := by decide +kernel
theorem dX1_worthTo_16 : decode cX1_worthTo 16 = .ok (.iaload, 1) := by decide +kernel
theorem dX1_worthTo_17 : decode cX1_worthTo 17 = .ok (.istore 4, 2) := by decide +kernel
theorem dX1_worthTo_19 : decode cX1_worthTo 19 = .ok (.iload_n 3, 1) := by decide +kernel
theorem dX1_worthTo_20 : decode cX1_worthTo 20 = .ok (.iload_n 2, 1) := by decide +kernel
theorem dX1_worthTo_21 : decode cX1_worthTo 21 = .ok (.if_icmp .le 9, 3) := by decide +kernel
theorem dX1_worthTo_24 : decode cX1_worthTo 24 = .ok (.iload_n 3, 1) := by decide +kernel
theorem dX1_worthTo_25 : decode cX1_worthTo 25 = .ok (.iload_n 2, 1) := by decide +kernel
theorem dX1_worthTo_26 : decode cX1_worthTo 26 = .ok (.isub, 1) := by decide +kernel
theorem dX1_worthTo_27 : decode cX1_worthTo 27 = .ok (.goto 4, 3) := by decide +kernel
theorem dX1_worthTo_30 : decode cX1_worthTo 30 = .ok (.iconst 0, 1) := by decide +kernel
theorem dX1_worthTo_31 : decode cX1_worthTo 31 = .ok (.istore 5, 2) := by decide +kernel
theorem dX1_worthTo_33 : decode cX1_worthTo 33 = .ok (.iload 4, 2) := by decide +kernel
theorem dX1_worthTo_35 : decode cX1_worthTo 35 = .ok (.tableswitch 123 1 5 #[33, 43, 59, 57, 59], 33) := by decide +kernel
theorem dX1_worthTo_68 : decode cX1_worthTo 68 = .ok (.iload_n 2, 1) := by decide +kernel
theorem dX1_worthTo_69 : decode cX1_worthTo 69 = .ok (.ifCond .ne 7, 3) := by decide +kernel
theorem dX1_worthTo_72 : decode cX1_worthTo 72 = .ok (.iload_n 3, 1) := by decide +kernel
theorem dX1_worthTo_73 : decode cX1_worthTo 73 = .ok (.goto 4, 3) := by decide +kernel
theorem dX1_worthTo_76 : decode cX1_worthTo 76 = .ok (.iconst (-1), 1) := by decide +kernel
theorem dX1_worthTo_77 : decode cX1_worthTo 77 = .ok (.ireturn, 1) := by decide +kernel
theorem dX1_worthTo_78 : decode cX1_worthTo 78 = .ok (.iload_n 2, 1) := by decide +kernel
theorem dX1_worthTo_79 : decode cX1_worthTo 79 = .ok (.iconst 3, 1) := by decide +kernel
theorem dX1_worthTo_80 : decode cX1_worthTo 80 = .ok (.if_icmp .lt 9, 3) := by decide +kernel
theorem dX1_worthTo_83 : decode cX1_worthTo 83 = .ok (.iload_n 3, 1) := by decide +kernel
theorem dX1_worthTo_84 : decode cX1_worthTo 84 = .ok (.iconst 1, 1) := by decide +kernel
theorem dX1_worthTo_85 : decode cX1_worthTo 85 = .ok (.iadd, 1) := by decide +kernel
theorem dX1_worthTo_86 : decode cX1_worthTo 86 = .ok (.goto 5, 3) := by decide +kernel
theorem dX1_worthTo_89 : decode cX1_worthTo 89 = .ok (.iload 5, 2) := by decide +kernel
theorem dX1_worthTo_91 : decode cX1_worthTo 91 = .ok (.ireturn, 1) := by decide +kernel
theorem dX1_worthTo_92 : decode cX1_worthTo 92 = .ok (.iconst 1, 1) := by decide +kernel
theorem dX1_worthTo_93 : decode cX1_worthTo 93 = .ok (.ireturn, 1) := by decide +kernel
theorem dX1_worthTo_94 : decode cX1_worthTo 94 = .ok (.iload_n 2, 1) := by decide +kernel
theorem dX1_worthTo_95 : decode cX1_worthTo 95 = .ok (.iconst 1, 1) := by decide +kernel
theorem dX1_worthTo_96 : decode cX1_worthTo 96 = .ok (.if_icmp .le 5, 3) := by decide +kernel
theorem dX1_worthTo_99 : decode cX1_worthTo 99 = .ok (.iconst (-1), 1) := by decide +kernel
theorem dX1_worthTo_100 : decode cX1_worthTo 100 = .ok (.ireturn, 1) := by decide +kernel
theorem dX1_worthTo_101 : decode cX1_worthTo 101 = .ok (.iload_n 2, 1) := by decide +kernel
theorem dX1_worthTo_102 : decode cX1_worthTo 102 = .ok (.ifCond .ne 7, 3) := by decide +kernel
theorem dX1_worthTo_105 : decode cX1_worthTo 105 = .ok (.iload_n 3, 1) := by decide +kernel
theorem dX1_worthTo_106 : decode cX1_worthTo 106 = .ok (.goto 6, 3) := by decide +kernel
theorem dX1_worthTo_109 : decode cX1_worthTo 109 = .ok (.iload_n 3, 1) := by decide +kernel
theorem dX1_worthTo_110 : decode cX1_worthTo 110 = .ok (.iconst 2, 1) := by decide +kernel
theorem dX1_worthTo_111 : decode cX1_worthTo 111 = .ok (.idiv, 1) := by decide +kernel
theorem dX1_worthTo_112 : decode cX1_worthTo 112 = .ok (.istore 6, 2) := by decide +kernel
theorem dX1_worthTo_114 : decode cX1_worthTo 114 = .ok (.iload 4, 2) := by decide +kernel
theorem dX1_worthTo_116 : decode cX1_worthTo 116 = .ok (.iconst 5, 1) := by decide +kernel
theorem dX1_worthTo_117 : decode cX1_worthTo 117 = .ok (.if_icmp .ne 18, 3) := by decide +kernel
theorem dX1_worthTo_120 : decode cX1_worthTo 120 = .ok (.aload_n 0, 1) := by decide +kernel
theorem dX1_worthTo_121 : decode cX1_worthTo 121 = .ok (.getfield 36, 3) := by decide +kernel
theorem dX1_worthTo_124 : decode cX1_worthTo 124 = .ok (.bipush 7, 2) := by decide +kernel
theorem dX1_worthTo_126 : decode cX1_worthTo 126 = .ok (.irem, 1) := by decide +kernel
theorem dX1_worthTo_127 : decode cX1_worthTo 127 = .ok (.iconst 5, 1) := by decide +kernel
theorem dX1_worthTo_128 : decode cX1_worthTo 128 = .ok (.if_icmp .lt 7, 3) := by decide +kernel
theorem dX1_worthTo_131 : decode cX1_worthTo 131 = .ok (.iconst 1, 1) := by decide +kernel
theorem dX1_worthTo_132 : decode cX1_worthTo 132 = .ok (.goto 4, 3) := by decide +kernel
theorem dX1_worthTo_135 : decode cX1_worthTo 135 = .ok (.iconst 0, 1) := by decide +kernel
theorem dX1_worthTo_136 : decode cX1_worthTo 136 = .ok (.istore 7, 2) := by decide +kernel
theorem dX1_worthTo_138 : decode cX1_worthTo 138 = .ok (.iload 7, 2) := by decide +kernel
theorem dX1_worthTo_140 : decode cX1_worthTo 140 = .ok (.ifCond .eq 15, 3) := by decide +kernel
theorem dX1_worthTo_143 : decode cX1_worthTo 143 = .ok (.iload 6, 2) := by decide +kernel
theorem dX1_worthTo_145 : decode cX1_worthTo 145 = .ok (.ifCond .le 10, 3) := by decide +kernel
theorem dX1_worthTo_148 : decode cX1_worthTo 148 = .ok (.iload 6, 2) := by decide +kernel
theorem dX1_worthTo_150 : decode cX1_worthTo 150 = .ok (.iconst 1, 1) := by decide +kernel
theorem dX1_worthTo_151 : decode cX1_worthTo 151 = .ok (.isub, 1) := by decide +kernel
theorem dX1_worthTo_152 : decode cX1_worthTo 152 = .ok (.goto 5, 3) := by decide +kernel
theorem dX1_worthTo_155 : decode cX1_worthTo 155 = .ok (.iload 6, 2) := by decide +kernel
theorem dX1_worthTo_157 : decode cX1_worthTo 157 = .ok (.ireturn, 1) := by decide +kernel
theorem dX1_worthTo_158 : decode cX1_worthTo 158 = .ok (.iload 5, 2) := by decide +kernel
theorem dX1_worthTo_160 : decode cX1_worthTo 160 = .ok (.ireturn, 1) := by decide +kernel
theorem dX2_init_0 : decode cX2_init 0 = .ok (.aload_n 0, 1) := by decide +kernel
theorem dX2_init_1 : decode cX2_init 1 = .ok (.invokespecial 3, 3) := by decide +kernel
theorem dX2_init_4 : decode cX2_init 4 = .ok (.aload_n 0, 1) := by decide +kernel
theorem dX2_init_5 : decode cX2_init 5 = .ok (.bipush 96, 2) := by decide +kernel
theorem dX2_init_7 : decode cX2_init 7 = .ok (.newarray .char, 2) := by decide +kernel
theorem dX2_init_9 : decode cX2_init 9 = .ok (.putfield 9, 3) := by decide +kernel
theorem dX2_init_12 : decode cX2_init 12 = .ok (.return_, 1) := by decide +kernel
theorem dX2_add_0 : decode cX2_add 0 = .ok (.aload_n 0, 1) := by decide +kernel
theorem dX2_add_1 : decode cX2_add 1 = .ok (.getfield 15, 3) := by decide +kernel
theorem dX2_add_4 : decode cX2_add 4 = .ok (.bipush 96, 2) := by decide +kernel
theorem dX2_add_6 : decode cX2_add 6 = .ok (.if_icmp .ge 23, 3) := by decide +kernel
theorem dX2_add_9 : decode cX2_add 9 = .ok (.aload_n 0, 1) := by decide +kernel
theorem dX2_add_10 : decode cX2_add 10 = .ok (.getfield 9, 3) := by decide +kernel
theorem dX2_add_13 : decode cX2_add 13 = .ok (.aload_n 0, 1) := by decide +kernel
theorem dX2_add_14 : decode cX2_add 14 = .ok (.getfield 15, 3) := by decide +kernel
theorem dX2_add_17 : decode cX2_add 17 = .ok (.iload_n 1, 1) := by decide +kernel
theorem dX2_add_18 : decode cX2_add 18 = .ok (.castore, 1) := by decide +kernel
theorem dX2_add_19 : decode cX2_add 19 = .ok (.aload_n 0, 1) := by decide +kernel
theorem dX2_add_20 : decode cX2_add 20 = .ok (.dup, 1) := by decide +kernel
theorem dX2_add_21 : decode cX2_add 21 = .ok (.getfield 15, 3) := by decide +kernel
theorem dX2_add_24 : decode cX2_add 24 = .ok (.iconst 1, 1) := by decide +kernel
theorem dX2_add_25 : decode cX2_add 25 = .ok (.iadd, 1) := by decide +kernel
theorem dX2_add_26 : decode cX2_add 26 = .ok (.putfield 15, 3) := by decide +kernel
theorem dX2_add_29 : decode cX2_add 29 = .ok (.return_, 1) := by decide +kernel
theorem dX2_sign_0 : decode cX2_sign 0 = .ok (.iload_n 1, 1) := by decide +kernel
theorem dX2_sign_1 : decode cX2_sign 1 = .ok (.ifCond .lt 20, 3) := by decide +kernel
theorem dX2_sign_4 : decode cX2_sign 4 = .ok (.iload_n 1, 1) := by decide +kernel
theorem dX2_sign_5 : decode cX2_sign 5 = .ok (.aload_n 0, 1) := by decide +kernel
theorem dX2_sign_6 : decode cX2_sign 6 = .ok (.getfield 15, 3) := by decide +kernel
theorem dX2_sign_9 : decode cX2_sign 9 = .ok (.if_icmp .ge 12, 3) := by decide +kernel
theorem dX2_sign_12 : decode cX2_sign 12 = .ok (.aload_n 0, 1) := by decide +kernel
theorem dX2_sign_13 : decode cX2_sign 13 = .ok (.getfield 9, 3) := by decide +kernel
theorem dX2_sign_16 : decode cX2_sign 16 = .ok (.iload_n 1, 1) := by decide +kernel
theorem dX2_sign_17 : decode cX2_sign 17 = .ok (.caload, 1) := by decide +kernel
theorem dX2_sign_18 : decode cX2_sign 18 = .ok (.goto 5, 3) := by decide +kernel
theorem dX2_sign_21 : decode cX2_sign 21 = .ok (.bipush 59, 2) := by decide +kernel
theorem dX2_sign_23 : decode cX2_sign 23 = .ok (.ireturn, 1) := by decide +kernel
theorem dX2_digit_0 : decode cX2_digit 0 = .ok (.aload_n 0, 1) := by decide +kernel
theorem dX2_digit_1 : decode cX2_digit 1 = .ok (.iload_n 1, 1) := by decide +kernel
theorem dX2_digit_2 : decode cX2_digit 2 = .ok (.invokevirtual 19, 3) := by decide +kernel
theorem dX2_digit_5 : decode cX2_digit 5 = .ok (.bipush 48, 2) := by decide +kernel
theorem dX2_digit_7 : decode cX2_digit 7 = .ok (.isub, 1) := by decide +kernel
theorem dX2_digit_8 : decode cX2_digit 8 = .ok (.ireturn, 1) := by decide +kernel
theorem dX2_twoDigits_0 : decode cX2_twoDigits 0 = .ok (.bipush 10, 2) := by decide +kernel
theorem dX2_twoDigits_2 : decode cX2_twoDigits 2 = .ok (.aload_n 0, 1) := by decide +kernel
theorem dX2_twoDigits_3 : decode cX2_twoDigits 3 = .ok (.iload_n 1, 1) := by decide +kernel
theorem dX2_twoDigits_4 : decode cX2_twoDigits 4 = .ok (.invokevirtual 23, 3) := by decide +kernel
theorem dX2_twoDigits_7 : decode cX2_twoDigits 7 = .ok (.imul, 1) := by decide +kernel
theorem dX2_twoDigits_8 : decode cX2_twoDigits 8 = .ok (.aload_n 0, 1) := by decide +kernel
theorem dX2_twoDigits_9 : decode cX2_twoDigits 9 = .ok (.iload_n 1, 1) := by decide +kernel
theorem dX2_twoDigits_10 : decode cX2_twoDigits 10 = .ok (.iconst 1, 1) := by decide +kernel
theorem dX2_twoDigits_11 : decode cX2_twoDigits 11 = .ok (.iadd, 1) := by decide +kernel
theorem dX2_twoDigits_12 : decode cX2_twoDigits 12 = .ok (.invokevirtual 23, 3) := by decide +kernel
theorem dX2_twoDigits_15 : decode cX2_twoDigits 15 = .ok (.iadd, 1) := by decide +kernel
theorem dX2_twoDigits_16 : decode cX2_twoDigits 16 = .ok (.ireturn, 1) := by decide +kernel
theorem dX2_wrongPlace_0 : decode cX2_wrongPlace 0 = .ok (.ldc 27, 2) := by decide +kernel
theorem dX2_wrongPlace_2 : decode cX2_wrongPlace 2 = .ok (.astore_n 1, 1) := by decide +kernel
theorem dX2_wrongPlace_3 : decode cX2_wrongPlace 3 = .ok (.iconst 0, 1) := by decide +kernel
theorem dX2_wrongPlace_4 : decode cX2_wrongPlace 4 = .ok (.istore_n 2, 1) := by decide +kernel
theorem dX2_wrongPlace_5 : decode cX2_wrongPlace 5 = .ok (.iconst 0, 1) := by decide +kernel
theorem dX2_wrongPlace_6 : decode cX2_wrongPlace 6 = .ok (.istore_n 3, 1) := by decide +kernel
theorem dX2_wrongPlace_7 : decode cX2_wrongPlace 7 = .ok (.iload_n 3, 1) := by decide +kernel
theorem dX2_wrongPlace_8 : decode cX2_wrongPlace 8 = .ok (.aload_n 0, 1) := by decide +kernel
theorem dX2_wrongPlace_9 : decode cX2_wrongPlace 9 = .ok (.getfield 15, 3) := by decide +kernel
theorem dX2_wrongPlace_12 : decode cX2_wrongPlace 12 = .ok (.if_icmp .ge 89, 3) := by decide +kernel
theorem dX2_wrongPlace_15 : decode cX2_wrongPlace 15 = .ok (.aload_n 0, 1) := by decide +kernel
theorem dX2_wrongPlace_16 : decode cX2_wrongPlace 16 = .ok (.getfield 9, 3) := by decide +kernel
theorem dX2_wrongPlace_19 : decode cX2_wrongPlace 19 = .ok (.iload_n 3, 1) := by decide +kernel
theorem dX2_wrongPlace_20 : decode cX2_wrongPlace 20 = .ok (.caload, 1) := by decide +kernel
theorem dX2_wrongPlace_21 : decode cX2_wrongPlace 21 = .ok (.istore 4, 2) := by decide +kernel
theorem dX2_wrongPlace_23 : decode cX2_wrongPlace 23 = .ok (.iload_n 2, 1) := by decide +kernel
theorem dX2_wrongPlace_24 : decode cX2_wrongPlace 24 = .ok (.aload_n 1, 1) := by decide +kernel
theorem dX2_wrongPlace_25 : decode cX2_wrongPlace 25 = .ok (.invokevirtual 29, 3) := by decide +kernel
theorem dX2_wrongPlace_28 : decode cX2_wrongPlace 28 = .ok (.if_icmp .lt 20, 3) := by decide +kernel
theorem dX2_wrongPlace_31 : decode cX2_wrongPlace 31 = .ok (.iload 4, 2) := by decide +kernel
theorem dX2_wrongPlace_33 : decode cX2_wrongPlace 33 = .ok (.invokestatic 35, 3) := by decide +kernel
theorem dX2_wrongPlace_36 : decode cX2_wrongPlace 36 = .ok (.astore_n 1, 1) := by decide +kernel
theorem dX2_wrongPlace_37 : decode cX2_wrongPlace 37 = .ok (.iconst 0, 1) := by decide +kernel
theorem dX2_wrongPlace_38 : decode cX2_wrongPlace 38 = .ok (.istore_n 2, 1) := by decide +kernel
theorem dX2_wrongPlace_39 : decode cX2_wrongPlace 39 = .ok (.aload_n 1, 1) := by decide +kernel
theorem dX2_wrongPlace_40 : decode cX2_wrongPlace 40 = .ok (.invokevirtual 39, 3) := by decide +kernel
theorem dX2_wrongPlace_43 : decode cX2_wrongPlace 43 = .ok (.ifCond .eq 52, 3) := by decide +kernel
theorem dX2_wrongPlace_46 : decode cX2_wrongPlace 46 = .ok (.iload_n 3, 1) := by decide +kernel
theorem dX2_wrongPlace_47 : decode cX2_wrongPlace 47 = .ok (.ireturn, 1) := by decide +kernel
theorem dX2_wrongPlace_48 : decode cX2_wrongPlace 48 = .ok (.aload_n 1, 1) := by decide +kernel
theorem dX2_wrongPlace_49 : decode cX2_wrongPlace 49 = .ok (.iload_n 2, 1) := by decide +kernel
theorem dX2_wrongPlace_50 : decode cX2_wrongPlace 50 = .ok (.invokevirtual 43, 3) := by decide +kernel
theorem dX2_wrongPlace_53 : decode cX2_wrongPlace 53 = .ok (.bipush 63, 2) := by decide +kernel
theorem dX2_wrongPlace_55 : decode cX2_wrongPlace 55 = .ok (.if_icmp .ne 14, 3) := by decide +kernel
theorem dX2_wrongPlace_58 : decode cX2_wrongPlace 58 = .ok (.iload 4, 2) := by decide +kernel
theorem dX2_wrongPlace_60 : decode cX2_wrongPlace 60 = .ok (.invokestatic 46, 3) := by decide +kernel
theorem dX2_wrongPlace_63 : decode cX2_wrongPlace 63 = .ok (.ifCond .ne 6, 3) := by decide +kernel
theorem dX2_wrongPlace_66 : decode cX2_wrongPlace 66 = .ok (.iinc 2 1, 3) := by decide +kernel
theorem dX2_wrongPlace_69 : decode cX2_wrongPlace 69 = .ok (.iload_n 2, 1) := by decide +kernel
theorem dX2_wrongPlace_70 : decode cX2_wrongPlace 70 = .ok (.aload_n 1, 1) := by decide +kernel
theorem dX2_wrongPlace_71 : decode cX2_wrongPlace 71 = .ok (.invokevirtual 29, 3) := by decide +kernel
theorem dX2_wrongPlace_74 : decode cX2_wrongPlace 74 = .ok (.if_icmp .ge 16, 3) := by decide +kernel
theorem dX2_wrongPlace_77 : decode cX2_wrongPlace 77 = .ok (.aload_n 1, 1) := by decide +kernel
theorem dX2_wrongPlace_78 : decode cX2_wrongPlace 78 = .ok (.iload_n 2, 1) := by decide +kernel
theorem dX2_wrongPlace_79 : decode cX2_wrongPlace 79 = .ok (.invokevirtual 43, 3) := by decide +kernel
theorem dX2_wrongPlace_82 : decode cX2_wrongPlace 82 = .ok (.iload 4, 2) := by decide +kernel
theorem dX2_wrongPlace_84 : decode cX2_wrongPlace 84 = .ok (.invokestatic 50, 3) := by decide +kernel
theorem dX2_wrongPlace_87 : decode cX2_wrongPlace 87 = .ok (.ifCond .ne 5, 3) := by decide +kernel
theorem dX2_wrongPlace_90 : decode cX2_wrongPlace 90 = .ok (.iload_n 3, 1) := by decide +kernel
theorem dX2_wrongPlace_91 : decode cX2_wrongPlace 91 = .ok (.ireturn, 1) := by decide +kernel
theorem dX2_wrongPlace_92 : decode cX2_wrongPlace 92 = .ok (.iinc 2 1, 3) := by decide +kernel
theorem dX2_wrongPlace_95 : decode cX2_wrongPlace 95 = .ok (.iinc 3 1, 3) := by decide +kernel
theorem dX2_wrongPlace_98 : decode cX2_wrongPlace 98 = .ok (.goto (-91), 3) := by decide +kernel
theorem dX2_wrongPlace_101 : decode cX2_wrongPlace 101 = .ok (.aload_n 0, 1) := by decide +kernel
theorem dX2_wrongPlace_102 : decode cX2_wrongPlace 102 = .ok (.getfield 15, 3) := by decide +kernel
theorem dX2_wrongPlace_105 : decode cX2_wrongPlace 105 = .ok (.ifCond .le 15, 3) := by decide +kernel
theorem dX2_wrongPlace_108 : decode cX2_wrongPlace 108 = .ok (.iload_n 2, 1) := by decide +kernel
theorem dX2_wrongPlace_109 : decode cX2_wrongPlace 109 = .ok (.aload_n 1, 1) := by decide +kernel
theorem dX2_wrongPlace_110 : decode cX2_wrongPlace 110 = .ok (.invokevirtual 29, 3) := by decide +kernel
theorem dX2_wrongPlace_113 : decode cX2_wrongPlace 113 = .ok (.if_icmp .lt 7, 3) := by decide +kernel
theorem dX2_wrongPlace_116 : decode cX2_wrongPlace 116 = .ok (.iconst (-1), 1) := by decide +kernel
theorem dX2_wrongPlace_117 : decode cX2_wrongPlace 117 = .ok (.goto 7, 3) := by decide +kernel
theorem dX2_wrongPlace_120 : decode cX2_wrongPlace 120 = .ok (.aload_n 0, 1) := by decide +kernel
theorem dX2_wrongPlace_121 : decode cX2_wrongPlace 121 = .ok (.getfield 15, 3) := by decide +kernel
theorem dX2_wrongPlace_124 : decode cX2_wrongPlace 124 = .ok (.ireturn, 1) := by decide +kernel
theorem dX2_formBehind_0 : decode cX2_formBehind 0 = .ok (.iload_n 0, 1) := by decide +kernel
theorem dX2_formBehind_1 : decode cX2_formBehind 1 = .ok (.tableswitch 118 98 119 #[106, 106, 115, 103, 118, 118, 112, 118, 118, 118, 118, 118, 118, 118, 118, 118, 118, 106, 118, 118, 118, 109], 103) := by decide +kernel
theorem dX2_formBehind_104 : decode cX2_formBehind 104 = .ok (.ldc 54, 2) := by decide +kernel
theorem dX2_formBehind_106 : decode cX2_formBehind 106 = .ok (.areturn, 1) := by decide +kernel
theorem dX2_formBehind_107 : decode cX2_formBehind 107 = .ok (.ldc 56, 2) := by decide +kernel
theorem dX2_formBehind_109 : decode cX2_formBehind 109 = .ok (.areturn, 1) := by decide +kernel
theorem dX2_formBehind_110 : decode cX2_formBehind 110 = .ok (.ldc 58, 2) := by decide +kernel
theorem dX2_formBehind_112 : decode cX2_formBehind 112 = .ok (.areturn, 1) := by decide +kernel
theorem dX2_formBehind_113 : decode cX2_formBehind 113 = .ok (.ldc 60, 2) := by decide +kernel
theorem dX2_formBehind_115 : decode cX2_formBehind 115 = .ok (.areturn, 1) := by decide +kernel
theorem dX2_formBehind_116 : decode cX2_formBehind 116 = .ok (.ldc 62, 2) := by decide +kernel
theorem dX2_formBehind_118 : decode cX2_formBehind 118 = .ok (.areturn, 1) := by decide +kernel
theorem dX2_formBehind_119 : decode cX2_formBehind 119 = .ok (.ldc 27, 2) := by decide +kernel
theorem dX2_formBehind_121 : decode cX2_formBehind 121 = .ok (.areturn, 1) := by decide +kernel
theorem dX2_isDigit_0 : decode cX2_isDigit 0 = .ok (.iload_n 0, 1) := by decide +kernel
theorem dX2_isDigit_1 : decode cX2_isDigit 1 = .ok (.bipush 48, 2) := by decide +kernel
theorem dX2_isDigit_3 : decode cX2_isDigit 3 = .ok (.if_icmp .lt 13, 3) := by decide +kernel
theorem dX2_isDigit_6 : decode cX2_isDigit 6 = .ok (.iload_n 0, 1) := by decide +kernel
theorem dX2_isDigit_7 : decode cX2_isDigit 7 = .ok (.bipush 57, 2) := by decide +kernel
theorem dX2_isDigit_9 : decode cX2_isDigit 9 = .ok (.if_icmp .gt 7, 3) := by decide +kernel
theorem dX2_isDigit_12 : decode cX2_isDigit 12 = .ok (.iconst 1, 1) := by decide +kernel
theorem dX2_isDigit_13 : decode cX2_isDigit 13 = .ok (.goto 4, 3) := by decide +kernel
theorem dX2_isDigit_16 : decode cX2_isDigit 16 = .ok (.iconst 0, 1) := by decide +kernel
theorem dX2_isDigit_17 : decode cX2_isDigit 17 = .ok (.ireturn, 1) := by decide +kernel
theorem dX2_goesOn_0 : decode cX2_goesOn 0 = .ok (.iload_n 0, 1) := by decide +kernel
theorem dX2_goesOn_1 : decode cX2_goesOn 1 = .ok (.lookupswitch 104 #[(57, 99), (63, 99), (69, 51), (72, 66), (87, 81)], 51) := by decide +kernel
theorem dX2_goesOn_52 : decode cX2_goesOn 52 = .ok (.ldc 64, 2) := by decide +kernel
theorem dX2_goesOn_54 : decode cX2_goesOn 54 = .ok (.iload_n 1, 1) := by decide +kernel
theorem dX2_goesOn_55 : decode cX2_goesOn 55 = .ok (.invokevirtual 66, 3) := by decide +kernel
theorem dX2_goesOn_58 : decode cX2_goesOn 58 = .ok (.ifCond .lt 7, 3) := by decide +kernel
theorem dX2_goesOn_61 : decode cX2_goesOn 61 = .ok (.iconst 1, 1) := by decide +kernel
theorem dX2_goesOn_62 : decode cX2_goesOn 62 = .ok (.goto 4, 3) := by decide +kernel
theorem dX2_goesOn_65 : decode cX2_goesOn 65 = .ok (.iconst 0, 1) := by decide +kernel
theorem dX2_goesOn_66 : decode cX2_goesOn 66 = .ok (.ireturn, 1) := by decide +kernel
theorem dX2_goesOn_67 : decode cX2_goesOn 67 = .ok (.ldc 69, 2) := by decide +kernel
theorem dX2_goesOn_69 : decode cX2_goesOn 69 = .ok (.iload_n 1, 1) := by decide +kernel
theorem dX2_goesOn_70 : decode cX2_goesOn 70 = .ok (.invokevirtual 66, 3) := by decide +kernel
theorem dX2_goesOn_73 : decode cX2_goesOn 73 = .ok (.ifCond .lt 7, 3) := by decide +kernel
theorem dX2_goesOn_76 : decode cX2_goesOn 76 = .ok (.iconst 1, 1) := by decide +kernel
theorem dX2_goesOn_77 : decode cX2_goesOn 77 = .ok (.goto 4, 3) := by decide +kernel
theorem dX2_goesOn_80 : decode cX2_goesOn 80 = .ok (.iconst 0, 1) := by decide +kernel
theorem dX2_goesOn_81 : decode cX2_goesOn 81 = .ok (.ireturn, 1) := by decide +kernel
theorem dX2_goesOn_82 : decode cX2_goesOn 82 = .ok (.iload_n 1, 1) := by decide +kernel
theorem dX2_goesOn_83 : decode cX2_goesOn 83 = .ok (.bipush 111, 2) := by decide +kernel
theorem dX2_goesOn_85 : decode cX2_goesOn 85 = .ok (.if_icmp .eq 9, 3) := by decide +kernel
theorem dX2_goesOn_88 : decode cX2_goesOn 88 = .ok (.iload_n 1, 1) := by decide +kernel
theorem dX2_goesOn_89 : decode cX2_goesOn 89 = .ok (.bipush 120, 2) := by decide +kernel
theorem dX2_goesOn_91 : decode cX2_goesOn 91 = .ok (.if_icmp .ne 7, 3) := by decide +kernel
theorem dX2_goesOn_94 : decode cX2_goesOn 94 = .ok (.iconst 1, 1) := by decide +kernel
theorem dX2_goesOn_95 : decode cX2_goesOn 95 = .ok (.goto 4, 3) := by decide +kernel
theorem dX2_goesOn_98 : decode cX2_goesOn 98 = .ok (.iconst 0, 1) := by decide +kernel
theorem dX2_goesOn_99 : decode cX2_goesOn 99 = .ok (.ireturn, 1) := by decide +kernel
theorem dX2_goesOn_100 : decode cX2_goesOn 100 = .ok (.iload_n 1, 1) := by decide +kernel
theorem dX2_goesOn_101 : decode cX2_goesOn 101 = .ok (.invokestatic 46, 3) := by decide +kernel
theorem dX2_goesOn_104 : decode cX2_goesOn 104 = .ok (.ireturn, 1) := by decide +kernel
theorem dX2_goesOn_105 : decode cX2_goesOn 105 = .ok (.iload_n 1, 1) := by decide +kernel
theorem dX2_goesOn_106 : decode cX2_goesOn 106 = .ok (.iload_n 0, 1) := by decide +kernel
theorem dX2_goesOn_107 : decode cX2_goesOn 107 = .ok (.if_icmp .ne 7, 3) := by decide +kernel
theorem dX2_goesOn_110 : decode cX2_goesOn 110 = .ok (.iconst 1, 1) := by decide +kernel
theorem dX2_goesOn_111 : decode cX2_goesOn 111 = .ok (.goto 4, 3) := by decide +kernel
theorem dX2_goesOn_114 : decode cX2_goesOn 114 = .ok (.iconst 0, 1) := by decide +kernel
theorem dX2_goesOn_115 : decode cX2_goesOn 115 = .ok (.ireturn, 1) := by decide +kernel
theorem dX2_behindStatement_0 : decode cX2_behindStatement 0 = .ok (.iload_n 1, 1) := by decide +kernel
theorem dX2_behindStatement_1 : decode cX2_behindStatement 1 = .ok (.istore_n 2, 1) := by decide +kernel
theorem dX2_behindStatement_2 : decode cX2_behindStatement 2 = .ok (.iload_n 2, 1) := by decide +kernel
theorem dX2_behindStatement_3 : decode cX2_behindStatement 3 = .ok (.aload_n 0, 1) := by decide +kernel
theorem dX2_behindStatement_4 : decode cX2_behindStatement 4 = .ok (.getfield 15, 3) := by decide +kernel
theorem dX2_behindStatement_7 : decode cX2_behindStatement 7 = .ok (.if_icmp .ge 20, 3) := by decide +kernel
theorem dX2_behindStatement_10 : decode cX2_behindStatement 10 = .ok (.aload_n 0, 1) := by decide +kernel
theorem dX2_behindStatement_11 : decode cX2_behindStatement 11 = .ok (.getfield 9, 3) := by decide +kernel
theorem dX2_behindStatement_14 : decode cX2_behindStatement 14 = .ok (.iload_n 2, 1) := by decide +kernel
theorem dX2_behindStatement_15 : decode cX2_behindStatement 15 = .ok (.caload, 1) := by decide +kernel
theorem dX2_behindStatement_16 : decode cX2_behindStatement 16 = .ok (.bipush 59, 2) := by decide +kernel
theorem dX2_behindStatement_18 : decode cX2_behindStatement 18 = .ok (.if_icmp .eq 9, 3) := by decide +kernel
theorem dX2_behindStatement_21 : decode cX2_behindStatement 21 = .ok (.iinc 2 1, 3) := by decide +kernel
theorem dX2_behindStatement_24 : decode cX2_behindStatement 24 = .ok (.goto (-22), 3) := by decide +kernel
theorem dX2_behindStatement_27 : decode cX2_behindStatement 27 = .ok (.iload_n 2, 1) := by decide +kernel
theorem dX2_behindStatement_28 : decode cX2_behindStatement 28 = .ok (.iconst 1, 1) := by decide +kernel
theorem dX2_behindStatement_29 : decode cX2_behindStatement 29 = .ok (.iadd, 1) := by decide +kernel
theorem dX2_behindStatement_30 : decode cX2_behindStatement 30 = .ok (.ireturn, 1) := by decide +kernel
theorem dX2_tellStatement_0 : decode cX2_tellStatement 0 = .ok (.aload_n 0, 1) := by decide +kernel
theorem dX2_tellStatement_1 : decode cX2_tellStatement 1 = .ok (.iload_n 1, 1) := by decide +kernel
theorem dX2_tellStatement_2 : decode cX2_tellStatement 2 = .ok (.invokevirtual 19, 3) := by decide +kernel
theorem dX2_tellStatement_5 : decode cX2_tellStatement 5 = .ok (.lookupswitch 292 #[(98, 187), (99, 241), (101, 59), (104, 223), (115, 123), (119, 142)], 59) := by decide +kernel
theorem dX2_tellStatement_64 : decode cX2_tellStatement 64 = .ok (.aload_n 0, 1) := by decide +kernel
theorem dX2_tellStatement_65 : decode cX2_tellStatement 65 = .ok (.iload_n 1, 1) := by decide +kernel
theorem dX2_tellStatement_66 : decode cX2_tellStatement 66 = .ok (.iconst 5, 1) := by decide +kernel
theorem dX2_tellStatement_67 : decode cX2_tellStatement 67 = .ok (.iadd, 1) := by decide +kernel
theorem dX2_tellStatement_68 : decode cX2_tellStatement 68 = .ok (.invokevirtual 19, 3) := by decide +kernel
theorem dX2_tellStatement_71 : decode cX2_tellStatement 71 = .ok (.bipush 59, 2) := by decide +kernel
theorem dX2_tellStatement_73 : decode cX2_tellStatement 73 = .ok (.if_icmp .ne 13, 3) := by decide +kernel
theorem dX2_tellStatement_76 : decode cX2_tellStatement 76 = .ok (.aload_n 0, 1) := by decide +kernel
theorem dX2_tellStatement_77 : decode cX2_tellStatement 77 = .ok (.iload_n 1, 1) := by decide +kernel
theorem dX2_tellStatement_78 : decode cX2_tellStatement 78 = .ok (.iconst 4, 1) := by decide +kernel
theorem dX2_tellStatement_79 : decode cX2_tellStatement 79 = .ok (.iadd, 1) := by decide +kernel
theorem dX2_tellStatement_80 : decode cX2_tellStatement 80 = .ok (.invokevirtual 23, 3) := by decide +kernel
theorem dX2_tellStatement_83 : decode cX2_tellStatement 83 = .ok (.goto 10, 3) := by decide +kernel
theorem dX2_tellStatement_86 : decode cX2_tellStatement 86 = .ok (.aload_n 0, 1) := by decide +kernel
theorem dX2_tellStatement_87 : decode cX2_tellStatement 87 = .ok (.iload_n 1, 1) := by decide +kernel
theorem dX2_tellStatement_88 : decode cX2_tellStatement 88 = .ok (.iconst 4, 1) := by decide +kernel
theorem dX2_tellStatement_89 : decode cX2_tellStatement 89 = .ok (.iadd, 1) := by decide +kernel
theorem dX2_tellStatement_90 : decode cX2_tellStatement 90 = .ok (.invokevirtual 71, 3) := by decide +kernel
theorem dX2_tellStatement_93 : decode cX2_tellStatement 93 = .ok (.istore 4, 2) := by decide +kernel
theorem dX2_tellStatement_95 : decode cX2_tellStatement 95 = .ok (.aload_n 2, 1) := by decide +kernel
theorem dX2_tellStatement_96 : decode cX2_tellStatement 96 = .ok (.ldc 64, 2) := by decide +kernel
theorem dX2_tellStatement_98 : decode cX2_tellStatement 98 = .ok (.aload_n 0, 1) := by decide +kernel
theorem dX2_tellStatement_99 : decode cX2_tellStatement 99 = .ok (.iload_n 1, 1) := by decide +kernel
theorem dX2_tellStatement_100 : decode cX2_tellStatement 100 = .ok (.iconst 1, 1) := by decide +kernel
theorem dX2_tellStatement_101 : decode cX2_tellStatement 101 = .ok (.iadd, 1) := by decide +kernel
theorem dX2_tellStatement_102 : decode cX2_tellStatement 102 = .ok (.invokevirtual 19, 3) := by decide +kernel
theorem dX2_tellStatement_105 : decode cX2_tellStatement 105 = .ok (.invokevirtual 66, 3) := by decide +kernel
theorem dX2_tellStatement_108 : decode cX2_tellStatement 108 = .ok (.aload_n 0, 1) := by decide +kernel
theorem dX2_tellStatement_109 : decode cX2_tellStatement 109 = .ok (.iload_n 1, 1) := by decide +kernel
theorem dX2_tellStatement_110 : decode cX2_tellStatement 110 = .ok (.iconst 2, 1) := by decide +kernel
theorem dX2_tellStatement_111 : decode cX2_tellStatement 111 = .ok (.iadd, 1) := by decide +kernel
theorem dX2_tellStatement_112 : decode cX2_tellStatement 112 = .ok (.invokevirtual 23, 3) := by decide +kernel
theorem dX2_tellStatement_115 : decode cX2_tellStatement 115 = .ok (.aload_n 0, 1) := by decide +kernel
theorem dX2_tellStatement_116 : decode cX2_tellStatement 116 = .ok (.iload_n 1, 1) := by decide +kernel
theorem dX2_tellStatement_117 : decode cX2_tellStatement 117 = .ok (.iconst 3, 1) := by decide +kernel
theorem dX2_tellStatement_118 : decode cX2_tellStatement 118 = .ok (.iadd, 1) := by decide +kernel
theorem dX2_tellStatement_119 : decode cX2_tellStatement 119 = .ok (.invokevirtual 23, 3) := by decide +kernel
theorem dX2_tellStatement_122 : decode cX2_tellStatement 122 = .ok (.iload 4, 2) := by decide +kernel
theorem dX2_tellStatement_124 : decode cX2_tellStatement 124 = .ok (.invokevirtual 74, 3) := by decide +kernel
theorem dX2_tellStatement_127 : decode cX2_tellStatement 127 = .ok (.ireturn, 1) := by decide +kernel
theorem dX2_tellStatement_128 : decode cX2_tellStatement 128 = .ok (.aload_n 2, 1) := by decide +kernel
theorem dX2_tellStatement_129 : decode cX2_tellStatement 129 = .ok (.aload_n 0, 1) := by decide +kernel
theorem dX2_tellStatement_130 : decode cX2_tellStatement 130 = .ok (.iload_n 1, 1) := by decide +kernel
theorem dX2_tellStatement_131 : decode cX2_tellStatement 131 = .ok (.iconst 1, 1) := by decide +kernel
theorem dX2_tellStatement_132 : decode cX2_tellStatement 132 = .ok (.iadd, 1) := by decide +kernel
theorem dX2_tellStatement_133 : decode cX2_tellStatement 133 = .ok (.invokevirtual 23, 3) := by decide +kernel
theorem dX2_tellStatement_136 : decode cX2_tellStatement 136 = .ok (.aload_n 0, 1) := by decide +kernel
theorem dX2_tellStatement_137 : decode cX2_tellStatement 137 = .ok (.iload_n 1, 1) := by decide +kernel
theorem dX2_tellStatement_138 : decode cX2_tellStatement 138 = .ok (.iconst 2, 1) := by decide +kernel
theorem dX2_tellStatement_139 : decode cX2_tellStatement 139 = .ok (.iadd, 1) := by decide +kernel
theorem dX2_tellStatement_140 : decode cX2_tellStatement 140 = .ok (.invokevirtual 71, 3) := by decide +kernel
theorem dX2_tellStatement_143 : decode cX2_tellStatement 143 = .ok (.invokevirtual 80, 3) := by decide +kernel
theorem dX2_tellStatement_146 : decode cX2_tellStatement 146 = .ok (.ireturn, 1) := by decide +kernel
theorem dX2_tellStatement_147 : decode cX2_tellStatement 147 = .ok (.iconst 0, 1) := by decide +kernel
theorem dX2_tellStatement_148 : decode cX2_tellStatement 148 = .ok (.istore 5, 2) := by decide +kernel
theorem dX2_tellStatement_150 : decode cX2_tellStatement 150 = .ok (.iload 5, 2) := by decide +kernel
theorem dX2_tellStatement_152 : decode cX2_tellStatement 152 = .ok (.bipush 7, 2) := by decide +kernel
theorem dX2_tellStatement_154 : decode cX2_tellStatement 154 = .ok (.if_icmp .ge 36, 3) := by decide +kernel
theorem dX2_tellStatement_157 : decode cX2_tellStatement 157 = .ok (.aload_n 2, 1) := by decide +kernel
theorem dX2_tellStatement_158 : decode cX2_tellStatement 158 = .ok (.getfield 84, 3) := by decide +kernel
theorem dX2_tellStatement_161 : decode cX2_tellStatement 161 = .ok (.iload 5, 2) := by decide +kernel
theorem dX2_tellStatement_163 : decode cX2_tellStatement 163 = .ok (.aload_n 0, 1) := by decide +kernel
theorem dX2_tellStatement_164 : decode cX2_tellStatement 164 = .ok (.iload_n 1, 1) := by decide +kernel
theorem dX2_tellStatement_165 : decode cX2_tellStatement 165 = .ok (.iconst 1, 1) := by decide +kernel
theorem dX2_tellStatement_166 : decode cX2_tellStatement 166 = .ok (.iadd, 1) := by decide +kernel
theorem dX2_tellStatement_167 : decode cX2_tellStatement 167 = .ok (.iload 5, 2) := by decide +kernel
theorem dX2_tellStatement_169 : decode cX2_tellStatement 169 = .ok (.iadd, 1) := by decide +kernel
theorem dX2_tellStatement_170 : decode cX2_tellStatement 170 = .ok (.invokevirtual 19, 3) := by decide +kernel
theorem dX2_tellStatement_173 : decode cX2_tellStatement 173 = .ok (.bipush 111, 2) := by decide +kernel
theorem dX2_tellStatement_175 : decode cX2_tellStatement 175 = .ok (.if_icmp .ne 7, 3) := by decide +kernel
theorem dX2_tellStatement_178 : decode cX2_tellStatement 178 = .ok (.iconst 1, 1) := by decide +kernel
theorem dX2_tellStatement_179 : decode cX2_tellStatement 179 = .ok (.goto 4, 3) := by decide +kernel
theorem dX2_tellStatement_182 : decode cX2_tellStatement 182 = .ok (.iconst 0, 1) := by decide +kernel
theorem dX2_tellStatement_183 : decode cX2_tellStatement 183 = .ok (.iastore, 1) := by decide +kernel
theorem dX2_tellStatement_184 : decode cX2_tellStatement 184 = .ok (.iinc 5 1, 3) := by decide +kernel
theorem dX2_tellStatement_187 : decode cX2_tellStatement 187 = .ok (.goto (-37), 3) := by decide +kernel
theorem dX2_tellStatement_190 : decode cX2_tellStatement 190 = .ok (.iconst 1, 1) := by decide +kernel
theorem dX2_tellStatement_191 : decode cX2_tellStatement 191 = .ok (.ireturn, 1) := by decide +kernel
theorem dX2_tellStatement_192 : decode cX2_tellStatement 192 = .ok (.aload_n 2, 1) := by decide +kernel
theorem dX2_tellStatement_193 : decode cX2_tellStatement 193 = .ok (.iconst 0, 1) := by decide +kernel
theorem dX2_tellStatement_194 : decode cX2_tellStatement 194 = .ok (.aload_n 0, 1) := by decide +kernel
theorem dX2_tellStatement_195 : decode cX2_tellStatement 195 = .ok (.iload_n 1, 1) := by decide +kernel
theorem dX2_tellStatement_196 : decode cX2_tellStatement 196 = .ok (.iconst 1, 1) := by decide +kernel
theorem dX2_tellStatement_197 : decode cX2_tellStatement 197 = .ok (.iadd, 1) := by decide +kernel
theorem dX2_tellStatement_198 : decode cX2_tellStatement 198 = .ok (.invokevirtual 71, 3) := by decide +kernel
theorem dX2_tellStatement_201 : decode cX2_tellStatement 201 = .ok (.invokevirtual 88, 3) := by decide +kernel
theorem dX2_tellStatement_204 : decode cX2_tellStatement 204 = .ok (.ifCond .eq 22, 3) := by decide +kernel
theorem dX2_tellStatement_207 : decode cX2_tellStatement 207 = .ok (.aload_n 2, 1) := by decide +kernel
theorem dX2_tellStatement_208 : decode cX2_tellStatement 208 = .ok (.iconst 1, 1) := by decide +kernel
theorem dX2_tellStatement_209 : decode cX2_tellStatement 209 = .ok (.aload_n 0, 1) := by decide +kernel
theorem dX2_tellStatement_210 : decode cX2_tellStatement 210 = .ok (.iload_n 1, 1) := by decide +kernel
theorem dX2_tellStatement_211 : decode cX2_tellStatement 211 = .ok (.iconst 3, 1) := by decide +kernel
theorem dX2_tellStatement_212 : decode cX2_tellStatement 212 = .ok (.iadd, 1) := by decide +kernel
theorem dX2_tellStatement_213 : decode cX2_tellStatement 213 = .ok (.invokevirtual 23, 3) := by decide +kernel
theorem dX2_tellStatement_216 : decode cX2_tellStatement 216 = .ok (.invokevirtual 88, 3) := by decide +kernel
theorem dX2_tellStatement_219 : decode cX2_tellStatement 219 = .ok (.ifCond .eq 7, 3) := by decide +kernel
theorem dX2_tellStatement_222 : decode cX2_tellStatement 222 = .ok (.iconst 1, 1) := by decide +kernel
theorem dX2_tellStatement_223 : decode cX2_tellStatement 223 = .ok (.goto 4, 3) := by decide +kernel
theorem dX2_tellStatement_226 : decode cX2_tellStatement 226 = .ok (.iconst 0, 1) := by decide +kernel
theorem dX2_tellStatement_227 : decode cX2_tellStatement 227 = .ok (.ireturn, 1) := by decide +kernel
theorem dX2_tellStatement_228 : decode cX2_tellStatement 228 = .ok (.aload_n 2, 1) := by decide +kernel
theorem dX2_tellStatement_229 : decode cX2_tellStatement 229 = .ok (.iconst 5, 1) := by decide +kernel
theorem dX2_tellStatement_230 : decode cX2_tellStatement 230 = .ok (.ldc 69, 2) := by decide +kernel
theorem dX2_tellStatement_232 : decode cX2_tellStatement 232 = .ok (.aload_n 0, 1) := by decide +kernel
theorem dX2_tellStatement_233 : decode cX2_tellStatement 233 = .ok (.iload_n 1, 1) := by decide +kernel
theorem dX2_tellStatement_234 : decode cX2_tellStatement 234 = .ok (.iconst 1, 1) := by decide +kernel
theorem dX2_tellStatement_235 : decode cX2_tellStatement 235 = .ok (.iadd, 1) := by decide +kernel
theorem dX2_tellStatement_236 : decode cX2_tellStatement 236 = .ok (.invokevirtual 19, 3) := by decide +kernel
theorem dX2_tellStatement_239 : decode cX2_tellStatement 239 = .ok (.invokevirtual 66, 3) := by decide +kernel
theorem dX2_tellStatement_242 : decode cX2_tellStatement 242 = .ok (.invokevirtual 88, 3) := by decide +kernel
theorem dX2_tellStatement_245 : decode cX2_tellStatement 245 = .ok (.ireturn, 1) := by decide +kernel
theorem dX2_tellStatement_246 : decode cX2_tellStatement 246 = .ok (.aload_n 2, 1) := by decide +kernel
theorem dX2_tellStatement_247 : decode cX2_tellStatement 247 = .ok (.iconst 2, 1) := by decide +kernel
theorem dX2_tellStatement_248 : decode cX2_tellStatement 248 = .ok (.aload_n 0, 1) := by decide +kernel
theorem dX2_tellStatement_249 : decode cX2_tellStatement 249 = .ok (.iload_n 1, 1) := by decide +kernel
theorem dX2_tellStatement_250 : decode cX2_tellStatement 250 = .ok (.iconst 1, 1) := by decide +kernel
theorem dX2_tellStatement_251 : decode cX2_tellStatement 251 = .ok (.iadd, 1) := by decide +kernel
theorem dX2_tellStatement_252 : decode cX2_tellStatement 252 = .ok (.invokevirtual 23, 3) := by decide +kernel
theorem dX2_tellStatement_255 : decode cX2_tellStatement 255 = .ok (.invokevirtual 88, 3) := by decide +kernel
theorem dX2_tellStatement_258 : decode cX2_tellStatement 258 = .ok (.ifCond .eq 37, 3) := by decide +kernel
theorem dX2_tellStatement_261 : decode cX2_tellStatement 261 = .ok (.aload_n 2, 1) := by decide +kernel
theorem dX2_tellStatement_262 : decode cX2_tellStatement 262 = .ok (.iconst 3, 1) := by decide +kernel
theorem dX2_tellStatement_263 : decode cX2_tellStatement 263 = .ok (.aload_n 0, 1) := by decide +kernel
theorem dX2_tellStatement_264 : decode cX2_tellStatement 264 = .ok (.iload_n 1, 1) := by decide +kernel
theorem dX2_tellStatement_265 : decode cX2_tellStatement 265 = .ok (.iconst 2, 1) := by decide +kernel
theorem dX2_tellStatement_266 : decode cX2_tellStatement 266 = .ok (.iadd, 1) := by decide +kernel
theorem dX2_tellStatement_267 : decode cX2_tellStatement 267 = .ok (.invokevirtual 23, 3) := by decide +kernel
theorem dX2_tellStatement_270 : decode cX2_tellStatement 270 = .ok (.invokevirtual 88, 3) := by decide +kernel
theorem dX2_tellStatement_273 : decode cX2_tellStatement 273 = .ok (.ifCond .eq 22, 3) := by decide +kernel
theorem dX2_tellStatement_276 : decode cX2_tellStatement 276 = .ok (.aload_n 2, 1) := by decide +kernel
theorem dX2_tellStatement_277 : decode cX2_tellStatement 277 = .ok (.iconst 4, 1) := by decide +kernel
theorem dX2_tellStatement_278 : decode cX2_tellStatement 278 = .ok (.aload_n 0, 1) := by decide +kernel
theorem dX2_tellStatement_279 : decode cX2_tellStatement 279 = .ok (.iload_n 1, 1) := by decide +kernel
theorem dX2_tellStatement_280 : decode cX2_tellStatement 280 = .ok (.iconst 3, 1) := by decide +kernel
theorem dX2_tellStatement_281 : decode cX2_tellStatement 281 = .ok (.iadd, 1) := by decide +kernel
theorem dX2_tellStatement_282 : decode cX2_tellStatement 282 = .ok (.invokevirtual 23, 3) := by decide +kernel
theorem dX2_tellStatement_285 : decode cX2_tellStatement 285 = .ok (.invokevirtual 88, 3) := by decide +kernel
theorem dX2_tellStatement_288 : decode cX2_tellStatement 288 = .ok (.ifCond .eq 7, 3) := by decide +kernel
theorem dX2_tellStatement_291 : decode cX2_tellStatement 291 = .ok (.iconst 1, 1) := by decide +kernel
theorem dX2_tellStatement_292 : decode cX2_tellStatement 292 = .ok (.goto 4, 3) := by decide +kernel
theorem dX2_tellStatement_295 : decode cX2_tellStatement 295 = .ok (.iconst 0, 1) := by decide +kernel
theorem dX2_tellStatement_296 : decode cX2_tellStatement 296 = .ok (.ireturn, 1) := by decide +kernel
theorem dX2_tellStatement_297 : decode cX2_tellStatement 297 = .ok (.aload_n 2, 1) := by decide +kernel
theorem dX2_tellStatement_298 : decode cX2_tellStatement 298 = .ok (.getfield 91, 3) := by decide +kernel
theorem dX2_tellStatement_301 : decode cX2_tellStatement 301 = .ok (.sipush 9999, 3) := by decide +kernel
theorem dX2_tellStatement_304 : decode cX2_tellStatement 304 = .ok (.if_icmp .lt 5, 3) := by decide +kernel
theorem dX2_tellStatement_307 : decode cX2_tellStatement 307 = .ok (.iconst 0, 1) := by decide +kernel
theorem dX2_tellStatement_308 : decode cX2_tellStatement 308 = .ok (.ireturn, 1) := by decide +kernel
theorem dX2_tellStatement_309 : decode cX2_tellStatement 309 = .ok (.aload_n 2, 1) := by decide +kernel
theorem dX2_tellStatement_310 : decode cX2_tellStatement 310 = .ok (.aload_n 3, 1) := by decide +kernel
theorem dX2_tellStatement_311 : decode cX2_tellStatement 311 = .ok (.invokevirtual 94, 3) := by decide +kernel
theorem dX2_tellStatement_314 : decode cX2_tellStatement 314 = .ok (.iconst 1, 1) := by decide +kernel
theorem dX2_tellStatement_315 : decode cX2_tellStatement 315 = .ok (.ireturn, 1) := by decide +kernel
theorem dX3_init_0 : decode cX3_init 0 = .ok (.aload_n 0, 1) := by decide +kernel
theorem dX3_init_1 : decode cX3_init 1 = .ok (.invokespecial 3, 3) := by decide +kernel
theorem dX3_init_4 : decode cX3_init 4 = .ok (.aload_n 0, 1) := by decide +kernel
theorem dX3_init_5 : decode cX3_init 5 = .ok (.bipush 6, 2) := by decide +kernel
theorem dX3_init_7 : decode cX3_init 7 = .ok (.newarray .int, 2) := by decide +kernel
theorem dX3_init_9 : decode cX3_init 9 = .ok (.putfield 9, 3) := by decide +kernel
theorem dX3_init_12 : decode cX3_init 12 = .ok (.aload_n 0, 1) := by decide +kernel
theorem dX3_init_13 : decode cX3_init 13 = .ok (.bipush 20, 2) := by decide +kernel
theorem dX3_init_15 : decode cX3_init 15 = .ok (.newarray .int, 2) := by decide +kernel
theorem dX3_init_17 : decode cX3_init 17 = .ok (.putfield 15, 3) := by decide +kernel
theorem dX3_init_20 : decode cX3_init 20 = .ok (.return_, 1) := by decide +kernel
theorem dX3_clear_0 : decode cX3_clear 0 = .ok (.aload_n 0, 1) := by decide +kernel
theorem dX3_clear_1 : decode cX3_clear 1 = .ok (.getfield 9, 3) := by decide +kernel
theorem dX3_clear_4 : decode cX3_clear 4 = .ok (.iconst 0, 1) := by decide +kernel
theorem dX3_clear_5 : decode cX3_clear 5 = .ok (.invokestatic 18, 3) := by decide +kernel
theorem dX3_clear_8 : decode cX3_clear 8 = .ok (.aload_n 0, 1) := by decide +kernel
theorem dX3_clear_9 : decode cX3_clear 9 = .ok (.iconst 0, 1) := by decide +kernel
theorem dX3_clear_10 : decode cX3_clear 10 = .ok (.putfield 24, 3) := by decide +kernel
theorem dX3_clear_13 : decode cX3_clear 13 = .ok (.return_, 1) := by decide +kernel
theorem dX3_addBought_0 : decode cX3_addBought 0 = .ok (.aload_n 0, 1) := by decide +kernel
theorem dX3_addBought_1 : decode cX3_addBought 1 = .ok (.getfield 9, 3) := by decide +kernel
theorem dX3_addBought_4 : decode cX3_addBought 4 = .ok (.iconst 5, 1) := by decide +kernel
theorem dX3_addBought_5 : decode cX3_addBought 5 = .ok (.dup2, 1) := by decide +kernel
theorem dX3_addBought_6 : decode cX3_addBought 6 = .ok (.iaload, 1) := by decide +kernel
theorem dX3_addBought_7 : decode cX3_addBought 7 = .ok (.iload_n 1, 1) := by decide +kernel
theorem dX3_addBought_8 : decode cX3_addBought 8 = .ok (.iadd, 1) := by decide +kernel
theorem dX3_addBought_9 : decode cX3_addBought 9 = .ok (.iastore, 1) := by decide +kernel
theorem dX3_addBought_10 : decode cX3_addBought 10 = .ok (.aload_n 0, 1) := by decide +kernel
theorem dX3_addBought_11 : decode cX3_addBought 11 = .ok (.getfield 9, 3) := by decide +kernel
theorem dX3_addBought_14 : decode cX3_addBought 14 = .ok (.iconst 0, 1) := by decide +kernel
theorem dX3_addBought_15 : decode cX3_addBought 15 = .ok (.dup2, 1) := by decide +kernel
theorem dX3_addBought_16 : decode cX3_addBought 16 = .ok (.iaload, 1) := by decide +kernel
theorem dX3_addBought_17 : decode cX3_addBought 17 = .ok (.iload_n 1, 1) := by decide +kernel
theorem dX3_addBought_18 : decode cX3_addBought 18 = .ok (.iload_n 2, 1) := by decide +kernel
theorem dX3_addBought_19 : decode cX3_addBought 19 = .ok (.imul, 1) := by decide +kernel
theorem dX3_addBought_20 : decode cX3_addBought 20 = .ok (.isub, 1) := by decide +kernel
theorem dX3_addBought_21 : decode cX3_addBought 21 = .ok (.iastore, 1) := by decide +kernel
theorem dX3_addBought_22 : decode cX3_addBought 22 = .ok (.return_, 1) := by decide +kernel
theorem dX3_addEaten_0 : decode cX3_addEaten 0 = .ok (.aload_n 0, 1) := by decide +kernel
theorem dX3_addEaten_1 : decode cX3_addEaten 1 = .ok (.getfield 9, 3) := by decide +kernel
theorem dX3_addEaten_4 : decode cX3_addEaten 4 = .ok (.iconst 1, 1) := by decide +kernel
theorem dX3_addEaten_5 : decode cX3_addEaten 5 = .ok (.dup2, 1) := by decide +kernel
theorem dX3_addEaten_6 : decode cX3_addEaten 6 = .ok (.iaload, 1) := by decide +kernel
theorem dX3_addEaten_7 : decode cX3_addEaten 7 = .ok (.iload_n 2, 1) := by decide +kernel
theorem dX3_addEaten_8 : decode cX3_addEaten 8 = .ok (.iadd, 1) := by decide +kernel
theorem dX3_addEaten_9 : decode cX3_addEaten 9 = .ok (.iastore, 1) := by decide +kernel
theorem dX3_addEaten_10 : decode cX3_addEaten 10 = .ok (.iload_n 1, 1) := by decide +kernel
theorem dX3_addEaten_11 : decode cX3_addEaten 11 = .ok (.ifCond .ne 13, 3) := by decide +kernel
theorem dX3_addEaten_14 : decode cX3_addEaten 14 = .ok (.aload_n 0, 1) := by decide +kernel
theorem dX3_addEaten_15 : decode cX3_addEaten 15 = .ok (.getfield 9, 3) := by decide +kernel
theorem dX3_addEaten_18 : decode cX3_addEaten 18 = .ok (.iconst 2, 1) := by decide +kernel
theorem dX3_addEaten_19 : decode cX3_addEaten 19 = .ok (.dup2, 1) := by decide +kernel
theorem dX3_addEaten_20 : decode cX3_addEaten 20 = .ok (.iaload, 1) := by decide +kernel
theorem dX3_addEaten_21 : decode cX3_addEaten 21 = .ok (.iload_n 2, 1) := by decide +kernel
theorem dX3_addEaten_22 : decode cX3_addEaten 22 = .ok (.iadd, 1) := by decide +kernel
theorem dX3_addEaten_23 : decode cX3_addEaten 23 = .ok (.iastore, 1) := by decide +kernel
theorem dX3_addEaten_24 : decode cX3_addEaten 24 = .ok (.aload_n 0, 1) := by decide +kernel
theorem dX3_addEaten_25 : decode cX3_addEaten 25 = .ok (.getfield 9, 3) := by decide +kernel
theorem dX3_addEaten_28 : decode cX3_addEaten 28 = .ok (.iconst 0, 1) := by decide +kernel
theorem dX3_addEaten_29 : decode cX3_addEaten 29 = .ok (.dup2, 1) := by decide +kernel
theorem dX3_addEaten_30 : decode cX3_addEaten 30 = .ok (.iaload, 1) := by decide +kernel
theorem dX3_addEaten_31 : decode cX3_addEaten 31 = .ok (.iload_n 2, 1) := by decide +kernel
theorem dX3_addEaten_32 : decode cX3_addEaten 32 = .ok (.iload_n 3, 1) := by decide +kernel
theorem dX3_addEaten_33 : decode cX3_addEaten 33 = .ok (.imul, 1) := by decide +kernel
theorem dX3_addEaten_34 : decode cX3_addEaten 34 = .ok (.iadd, 1) := by decide +kernel
theorem dX3_addEaten_35 : decode cX3_addEaten 35 = .ok (.iastore, 1) := by decide +kernel
theorem dX3_addEaten_36 : decode cX3_addEaten 36 = .ok (.iconst 0, 1) := by decide +kernel
theorem dX3_addEaten_37 : decode cX3_addEaten 37 = .ok (.istore 4, 2) := by decide +kernel
theorem dX3_addEaten_39 : decode cX3_addEaten 39 = .ok (.iload 4, 2) := by decide +kernel
theorem dX3_addEaten_41 : decode cX3_addEaten 41 = .ok (.iload_n 2, 1) := by decide +kernel
theorem dX3_addEaten_42 : decode cX3_addEaten 42 = .ok (.if_icmp .ge 38, 3) := by decide +kernel
theorem dX3_addEaten_45 : decode cX3_addEaten 45 = .ok (.aload_n 0, 1) := by decide +kernel
theorem dX3_addEaten_46 : decode cX3_addEaten 46 = .ok (.getfield 24, 3) := by decide +kernel
theorem dX3_addEaten_49 : decode cX3_addEaten 49 = .ok (.bipush 20, 2) := by decide +kernel
theorem dX3_addEaten_51 : decode cX3_addEaten 51 = .ok (.if_icmp .ge 29, 3) := by decide +kernel
theorem dX3_addEaten_54 : decode cX3_addEaten 54 = .ok (.aload_n 0, 1) := by decide +kernel
theorem dX3_addEaten_55 : decode cX3_addEaten 55 = .ok (.getfield 15, 3) := by decide +kernel
theorem dX3_addEaten_58 : decode cX3_addEaten 58 = .ok (.aload_n 0, 1) := by decide +kernel
theorem dX3_addEaten_59 : decode cX3_addEaten 59 = .ok (.getfield 24, 3) := by decide +kernel
theorem dX3_addEaten_62 : decode cX3_addEaten 62 = .ok (.iload_n 1, 1) := by decide +kernel
theorem dX3_addEaten_63 : decode cX3_addEaten 63 = .ok (.iastore, 1) := by decide +kernel
theorem dX3_addEaten_64 : decode cX3_addEaten 64 = .ok (.aload_n 0, 1) := by decide +kernel
theorem dX3_addEaten_65 : decode cX3_addEaten 65 = .ok (.dup, 1) := by decide +kernel
theorem dX3_addEaten_66 : decode cX3_addEaten 66 = .ok (.getfield 24, 3) := by decide +kernel
theorem dX3_addEaten_69 : decode cX3_addEaten 69 = .ok (.iconst 1, 1) := by decide +kernel
theorem dX3_addEaten_70 : decode cX3_addEaten 70 = .ok (.iadd, 1) := by decide +kernel
theorem dX3_addEaten_71 : decode cX3_addEaten 71 = .ok (.putfield 24, 3) := by decide +kernel
theorem dX3_addEaten_74 : decode cX3_addEaten 74 = .ok (.iinc 4 1, 3) := by decide +kernel
theorem dX3_addEaten_77 : decode cX3_addEaten 77 = .ok (.goto (-38), 3) := by decide +kernel
theorem dX3_addEaten_80 : decode cX3_addEaten 80 = .ok (.return_, 1) := by decide +kernel
theorem dX3_addLacked_0 : decode cX3_addLacked 0 = .ok (.aload_n 0, 1) := by decide +kernel
theorem dX3_addLacked_1 : decode cX3_addLacked 1 = .ok (.getfield 9, 3) := by decide +kernel
theorem dX3_addLacked_4 : decode cX3_addLacked 4 = .ok (.iconst 4, 1) := by decide +kernel
theorem dX3_addLacked_5 : decode cX3_addLacked 5 = .ok (.dup2, 1) := by decide +kernel
theorem dX3_addLacked_6 : decode cX3_addLacked 6 = .ok (.iaload, 1) := by decide +kernel
theorem dX3_addLacked_7 : decode cX3_addLacked 7 = .ok (.iload_n 1, 1) := by decide +kernel
theorem dX3_addLacked_8 : decode cX3_addLacked 8 = .ok (.iadd, 1) := by decide +kernel
theorem dX3_addLacked_9 : decode cX3_addLacked 9 = .ok (.iastore, 1) := by decide +kernel
theorem dX3_addLacked_10 : decode cX3_addLacked 10 = .ok (.aload_n 0, 1) := by decide +kernel
theorem dX3_addLacked_11 : decode cX3_addLacked 11 = .ok (.getfield 9, 3) := by decide +kernel
theorem dX3_addLacked_14 : decode cX3_addLacked 14 = .ok (.iconst 0, 1) := by decide +kernel
theorem dX3_addLacked_15 : decode cX3_addLacked 15 = .ok (.dup2, 1) := by decide +kernel
theorem dX3_addLacked_16 : decode cX3_addLacked 16 = .ok (.iaload, 1) := by decide +kernel
theorem dX3_addLacked_17 : decode cX3_addLacked 17 = .ok (.iload_n 1, 1) := by decide +kernel
theorem dX3_addLacked_18 : decode cX3_addLacked 18 = .ok (.iload_n 2, 1) := by decide +kernel
theorem dX3_addLacked_19 : decode cX3_addLacked 19 = .ok (.imul, 1) := by decide +kernel
theorem dX3_addLacked_20 : decode cX3_addLacked 20 = .ok (.isub, 1) := by decide +kernel
theorem dX3_addLacked_21 : decode cX3_addLacked 21 = .ok (.iastore, 1) := by decide +kernel
theorem dX3_addLacked_22 : decode cX3_addLacked 22 = .ok (.return_, 1) := by decide +kernel
theorem dX3_addThrown_0 : decode cX3_addThrown 0 = .ok (.aload_n 0, 1) := by decide +kernel
theorem dX3_addThrown_1 : decode cX3_addThrown 1 = .ok (.getfield 9, 3) := by decide +kernel
theorem dX3_addThrown_4 : decode cX3_addThrown 4 = .ok (.iconst 3, 1) := by decide +kernel
theorem dX3_addThrown_5 : decode cX3_addThrown 5 = .ok (.dup2, 1) := by decide +kernel
theorem dX3_addThrown_6 : decode cX3_addThrown 6 = .ok (.iaload, 1) := by decide +kernel
theorem dX3_addThrown_7 : decode cX3_addThrown 7 = .ok (.iload_n 1, 1) := by decide +kernel
theorem dX3_addThrown_8 : decode cX3_addThrown 8 = .ok (.iadd, 1) := by decide +kernel
theorem dX3_addThrown_9 : decode cX3_addThrown 9 = .ok (.iastore, 1) := by decide +kernel
theorem dX3_addThrown_10 : decode cX3_addThrown 10 = .ok (.aload_n 0, 1) := by decide +kernel
theorem dX3_addThrown_11 : decode cX3_addThrown 11 = .ok (.getfield 9, 3) := by decide +kernel
theorem dX3_addThrown_14 : decode cX3_addThrown 14 = .ok (.iconst 0, 1) := by decide +kernel
theorem dX3_addThrown_15 : decode cX3_addThrown 15 = .ok (.dup2, 1) := by decide +kernel
theorem dX3_addThrown_16 : decode cX3_addThrown 16 = .ok (.iaload, 1) := by decide +kernel
theorem dX3_addThrown_17 : decode cX3_addThrown 17 = .ok (.iload_n 1, 1) := by decide +kernel
theorem dX3_addThrown_18 : decode cX3_addThrown 18 = .ok (.iload_n 2, 1) := by decide +kernel
theorem dX3_addThrown_19 : decode cX3_addThrown 19 = .ok (.imul, 1) := by decide +kernel
theorem dX3_addThrown_20 : decode cX3_addThrown 20 = .ok (.isub, 1) := by decide +kernel
theorem dX3_addThrown_21 : decode cX3_addThrown 21 = .ok (.iastore, 1) := by decide +kernel
theorem dX3_addThrown_22 : decode cX3_addThrown 22 = .ok (.return_, 1) := by decide +kernel
theorem dJ11_isValidCodePoint_9a6ad_0 : decode cJ11_isValidCodePoint_9a6ad 0 = .ok (.iload_n 0, 1) := by decide +kernel
theorem dJ11_isValidCodePoint_9a6ad_1 : decode cJ11_isValidCodePoint_9a6ad 1 = .ok (.bipush 16, 2) := by decide +kernel
theorem dJ11_isValidCodePoint_9a6ad_3 : decode cJ11_isValidCodePoint_9a6ad 3 = .ok (.iushr, 1) := by decide +kernel
theorem dJ11_isValidCodePoint_9a6ad_4 : decode cJ11_isValidCodePoint_9a6ad 4 = .ok (.istore_n 1, 1) := by decide +kernel
theorem dJ11_isValidCodePoint_9a6ad_5 : decode cJ11_isValidCodePoint_9a6ad 5 = .ok (.iload_n 1, 1) := by decide +kernel
theorem dJ11_isValidCodePoint_9a6ad_6 : decode cJ11_isValidCodePoint_9a6ad 6 = .ok (.bipush 17, 2) := by decide +kernel
theorem dJ11_isValidCodePoint_9a6ad_8 : decode cJ11_isValidCodePoint_9a6ad 8 = .ok (.if_icmp .ge 7, 3) := by decide +kernel
theorem dJ11_isValidCodePoint_9a6ad_11 : decode cJ11_isValidCodePoint_9a6ad 11 = .ok (.iconst 1, 1) := by decide +kernel
theorem dJ11_isValidCodePoint_9a6ad_12 : decode cJ11_isValidCodePoint_9a6ad 12 = .ok (.goto 4, 3) := by decide +kernel
theorem dJ11_isValidCodePoint_9a6ad_15 : decode cJ11_isValidCodePoint_9a6ad 15 = .ok (.iconst 0, 1) := by decide +kernel
theorem dJ11_isValidCodePoint_9a6ad_16 : decode cJ11_isValidCodePoint_9a6ad 16 = .ok (.ireturn, 1) := by decide +kernel
theorem dJ11_highSurrogate_5068e_0 : decode cJ11_highSurrogate_5068e 0 = .ok (.iload_n 0, 1) := by decide +kernel
theorem dJ11_highSurrogate_5068e_1 : decode cJ11_highSurrogate_5068e 1 = .ok (.bipush 10, 2) := by decide +kernel
theorem dJ11_highSurrogate_5068e_3 : decode cJ11_highSurrogate_5068e 3 = .ok (.iushr, 1) := by decide +kernel
theorem dJ11_highSurrogate_5068e_4 : decode cJ11_highSurrogate_5068e 4 = .ok (.ldc 110, 2) := by decide +kernel
theorem dJ11_highSurrogate_5068e_6 : decode cJ11_highSurrogate_5068e 6 = .ok (.iadd, 1) := by decide +kernel
theorem dJ11_highSurrogate_5068e_7 : decode cJ11_highSurrogate_5068e 7 = .ok (.i2c, 1) := by decide +kernel
theorem dJ11_highSurrogate_5068e_8 : decode cJ11_highSurrogate_5068e 8 = .ok (.ireturn, 1) := by decide +kernel
theorem dJ11_lowSurrogate_5068e_0 : decode cJ11_lowSurrogate_5068e 0 = .ok (.iload_n 0, 1) := by decide +kernel
theorem dJ11_lowSurrogate_5068e_1 : decode cJ11_lowSurrogate_5068e 1 = .ok (.sipush 1023, 3) := by decide +kernel
theorem dJ11_lowSurrogate_5068e_4 : decode cJ11_lowSurrogate_5068e 4 = .ok (.iand, 1) := by decide +kernel
theorem dJ11_lowSurrogate_5068e_5 : decode cJ11_lowSurrogate_5068e 5 = .ok (.ldc 76, 2) := by decide +kernel
theorem dJ11_lowSurrogate_5068e_7 : decode cJ11_lowSurrogate_5068e 7 = .ok (.iadd, 1) := by decide +kernel
theorem dJ11_lowSurrogate_5068e_8 : decode cJ11_lowSurrogate_5068e 8 = .ok (.i2c, 1) := by decide +kernel
theorem dJ11_lowSurrogate_5068e_9 : decode cJ11_lowSurrogate_5068e 9 = .ok (.ireturn, 1) := by decide +kernel
theorem dJ9_abs_067f4_0 : decode cJ9_abs_067f4 0 = .ok (.lload_n 0, 1) := by decide +kernel
theorem dJ9_abs_067f4_1 : decode cJ9_abs_067f4 1 = .ok (.lconst 0, 1) := by decide +kernel
theorem dJ9_abs_067f4_2 : decode cJ9_abs_067f4 2 = .ok (.lcmp, 1) := by decide +kernel
theorem dJ9_abs_067f4_3 : decode cJ9_abs_067f4 3 = .ok (.ifCond .ge 8, 3) := by decide +kernel
theorem dJ9_abs_067f4_6 : decode cJ9_abs_067f4 6 = .ok (.lload_n 0, 1) := by decide +kernel
theorem dJ9_abs_067f4_7 : decode cJ9_abs_067f4 7 = .ok (.lneg, 1) := by decide +kernel
theorem dJ9_abs_067f4_8 : decode cJ9_abs_067f4 8 = .ok (.goto 4, 3) := by decide +kernel
theorem dJ9_abs_067f4_11 : decode cJ9_abs_067f4 11 = .ok (.lload_n 0, 1) := by decide +kernel
theorem dJ9_abs_067f4_12 : decode cJ9_abs_067f4 12 = .ok (.lreturn, 1) := by decide +kernel
theorem dJ9_max_7cf53_0 : decode cJ9_max_7cf53 0 = .ok (.iload_n 0, 1) := by decide +kernel
theorem dJ9_max_7cf53_1 : decode cJ9_max_7cf53 1 = .ok (.iload_n 1, 1) := by decide +kernel
theorem dJ9_max_7cf53_2 : decode cJ9_max_7cf53 2 = .ok (.if_icmp .lt 7, 3) := by decide +kernel
theorem dJ9_max_7cf53_5 : decode cJ9_max_7cf53 5 = .ok (.iload_n 0, 1) := by decide +kernel
theorem dJ9_max_7cf53_6 : decode cJ9_max_7cf53 6 = .ok (.goto 4, 3) := by decide +kernel
theorem dJ9_max_7cf53_9 : decode cJ9_max_7cf53 9 = .ok (.iload_n 1, 1) := by decide +kernel
theorem dJ9_max_7cf53_10 : decode cJ9_max_7cf53 10 = .ok (.ireturn, 1) := by decide +kernel
theorem dJ9_max_f86c9_0 : decode cJ9_max_f86c9 0 = .ok (.lload_n 0, 1) := by decide +kernel
theorem dJ9_max_f86c9_1 : decode cJ9_max_f86c9 1 = .ok (.lload_n 2, 1) := by decide +kernel
theorem dJ9_max_f86c9_2 : decode cJ9_max_f86c9 2 = .ok (.lcmp, 1) := by decide +kernel
theorem dJ9_max_f86c9_3 : decode cJ9_max_f86c9 3 = .ok (.ifCond .lt 7, 3) := by decide +kernel
theorem dJ9_max_f86c9_6 : decode cJ9_max_f86c9 6 = .ok (.lload_n 0, 1) := by decide +kernel
theorem dJ9_max_f86c9_7 : decode cJ9_max_f86c9 7 = .ok (.goto 4, 3) := by decide +kernel
theorem dJ9_max_f86c9_10 : decode cJ9_max_f86c9 10 = .ok (.lload_n 2, 1) := by decide +kernel
theorem dJ9_max_f86c9_11 : decode cJ9_max_f86c9 11 = .ok (.lreturn, 1) := by decide +kernel
theorem dJ9_min_7cf53_0 : decode cJ9_min_7cf53 0 = .ok (.iload_n 0, 1) := by decide +kernel
theorem dJ9_min_7cf53_1 : decode cJ9_min_7cf53 1 = .ok (.iload_n 1, 1) := by decide +kernel
theorem dJ9_min_7cf53_2 : decode cJ9_min_7cf53 2 = .ok (.if_icmp .gt 7, 3) := by decide +kernel
theorem dJ9_min_7cf53_5 : decode cJ9_min_7cf53 5 = .ok (.iload_n 0, 1) := by decide +kernel
theorem dJ9_min_7cf53_6 : decode cJ9_min_7cf53 6 = .ok (.goto 4, 3) := by decide +kernel
theorem dJ9_min_7cf53_9 : decode cJ9_min_7cf53 9 = .ok (.iload_n 1, 1) := by decide +kernel
theorem dJ9_min_7cf53_10 : decode cJ9_min_7cf53 10 = .ok (.ireturn, 1) := by decide +kernel
theorem dJ0_length_8abf5_0 : decode cJ0_length_8abf5 0 = .ok (.aload_n 0, 1) := by decide +kernel
theorem dJ0_length_8abf5_1 : decode cJ0_length_8abf5 1 = .ok (.getfield 9, 3) := by decide +kernel
theorem dJ0_length_8abf5_4 : decode cJ0_length_8abf5 4 = .ok (.arraylength, 1) := by decide +kernel
theorem dJ0_length_8abf5_5 : decode cJ0_length_8abf5 5 = .ok (.aload_n 0, 1) := by decide +kernel
theorem dJ0_length_8abf5_6 : decode cJ0_length_8abf5 6 = .ok (.invokevirtual 335, 3) := by decide +kernel
theorem dJ0_length_8abf5_9 : decode cJ0_length_8abf5 9 = .ok (.ishr, 1) := by decide +kernel
theorem dJ0_length_8abf5_10 : decode cJ0_length_8abf5 10 = .ok (.ireturn, 1) := by decide +kernel
theorem dJ0_isEmpty_aae02_0 : decode cJ0_isEmpty_aae02 0 = .ok (.aload_n 0, 1) := by decide +kernel
theorem dJ0_isEmpty_aae02_1 : decode cJ0_isEmpty_aae02 1 = .ok (.getfield 9, 3) := by decide +kernel
theorem dJ0_isEmpty_aae02_4 : decode cJ0_isEmpty_aae02 4 = .ok (.arraylength, 1) := by decide +kernel
theorem dJ0_isEmpty_aae02_5 : decode cJ0_isEmpty_aae02 5 = .ok (.ifCond .ne 7, 3) := by decide +kernel
theorem dJ0_isEmpty_aae02_8 : decode cJ0_isEmpty_aae02 8 = .ok (.iconst 1, 1) := by decide +kernel
theorem dJ0_isEmpty_aae02_9 : decode cJ0_isEmpty_aae02 9 = .ok (.goto 4, 3) := by decide +kernel
theorem dJ0_isEmpty_aae02_12 : decode cJ0_isEmpty_aae02 12 = .ok (.iconst 0, 1) := by decide +kernel
theorem dJ0_isEmpty_aae02_13 : decode cJ0_isEmpty_aae02 13 = .ok (.ireturn, 1) := by decide +kernel
theorem dJ0_charAt_5068e_0 : decode cJ0_charAt_5068e 0 = .ok (.aload_n 0, 1) := by decide +kernel
theorem dJ0_charAt_5068e_1 : decode cJ0_charAt_5068e 1 = .ok (.invokevirtual 492, 3) := by decide +kernel
theorem dJ0_charAt_5068e_4 : decode cJ0_charAt_5068e 4 = .ok (.ifCond .eq 12, 3) := by decide +kernel
theorem dJ0_charAt_5068e_7 : decode cJ0_charAt_5068e 7 = .ok (.aload_n 0, 1) := by decide +kernel
theorem dJ0_charAt_5068e_8 : decode cJ0_charAt_5068e 8 = .ok (.getfield 9, 3) := by decide +kernel
theorem dJ0_charAt_5068e_11 : decode cJ0_charAt_5068e 11 = .ok (.iload_n 1, 1) := by decide +kernel
theorem dJ0_charAt_5068e_12 : decode cJ0_charAt_5068e 12 = .ok (.invokestatic 495, 3) := by decide +kernel
theorem dJ0_charAt_5068e_15 : decode cJ0_charAt_5068e 15 = .ok (.ireturn, 1) := by decide +kernel
theorem dJ0_charAt_5068e_16 : decode cJ0_charAt_5068e 16 = .ok (.aload_n 0, 1) := by decide +kernel
theorem dJ0_charAt_5068e_17 : decode cJ0_charAt_5068e 17 = .ok (.getfield 9, 3) := by decide +kernel
theorem dJ0_charAt_5068e_20 : decode cJ0_charAt_5068e 20 = .ok (.iload_n 1, 1) := by decide +kernel
theorem dJ0_charAt_5068e_21 : decode cJ0_charAt_5068e 21 = .ok (.invokestatic 498, 3) := by decide +kernel
theorem dJ0_charAt_5068e_24 : decode cJ0_charAt_5068e 24 = .ok (.ireturn, 1) := by decide +kernel
theorem dJ0_indexOf_0f7a4_0 : decode cJ0_indexOf_0f7a4 0 = .ok (.aload_n 0, 1) := by decide +kernel
theorem dJ0_indexOf_0f7a4_1 : decode cJ0_indexOf_0f7a4 1 = .ok (.iload_n 1, 1) := by decide +kernel
theorem dJ0_indexOf_0f7a4_2 : decode cJ0_indexOf_0f7a4 2 = .ok (.iconst 0, 1) := by decide +kernel
theorem dJ0_indexOf_0f7a4_3 : decode cJ0_indexOf_0f7a4 3 = .ok (.invokevirtual 633, 3) := by decide +kernel
theorem dJ0_indexOf_0f7a4_6 : decode cJ0_indexOf_0f7a4 6 = .ok (.ireturn, 1) := by decide +kernel
theorem dJ0_indexOf_7cf53_0 : decode cJ0_indexOf_7cf53 0 = .ok (.aload_n 0, 1) := by decide +kernel
theorem dJ0_indexOf_7cf53_1 : decode cJ0_indexOf_7cf53 1 = .ok (.invokevirtual 492, 3) := by decide +kernel
theorem dJ0_indexOf_7cf53_4 : decode cJ0_indexOf_7cf53 4 = .ok (.ifCond .eq 19, 3) := by decide +kernel
theorem dJ0_indexOf_7cf53_7 : decode cJ0_indexOf_7cf53 7 = .ok (.aload_n 0, 1) := by decide +kernel
theorem dJ0_indexOf_7cf53_8 : decode cJ0_indexOf_7cf53 8 = .ok (.getfield 9, 3) := by decide +kernel
theorem dJ0_indexOf_7cf53_11 : decode cJ0_indexOf_7cf53 11 = .ok (.iload_n 1, 1) := by decide +kernel
theorem dJ0_indexOf_7cf53_12 : decode cJ0_indexOf_7cf53 12 = .ok (.iload_n 2, 1) := by decide +kernel
theorem dJ0_indexOf_7cf53_13 : decode cJ0_indexOf_7cf53 13 = .ok (.aload_n 0, 1) := by decide +kernel
theorem dJ0_indexOf_7cf53_14 : decode cJ0_indexOf_7cf53 14 = .ok (.invokevirtual 505, 3) := by decide +kernel
theorem dJ0_indexOf_7cf53_17 : decode cJ0_indexOf_7cf53 17 = .ok (.invokestatic 637, 3) := by decide +kernel
theorem dJ0_indexOf_7cf53_20 : decode cJ0_indexOf_7cf53 20 = .ok (.goto 16, 3) := by decide +kernel
theorem dJ0_indexOf_7cf53_23 : decode cJ0_indexOf_7cf53 23 = .ok (.aload_n 0, 1) := by decide +kernel
theorem dJ0_indexOf_7cf53_24 : decode cJ0_indexOf_7cf53 24 = .ok (.getfield 9, 3) := by decide +kernel
theorem dJ0_indexOf_7cf53_27 : decode cJ0_indexOf_7cf53 27 = .ok (.iload_n 1, 1) := by decide +kernel
theorem dJ0_indexOf_7cf53_28 : decode cJ0_indexOf_7cf53 28 = .ok (.iload_n 2, 1) := by decide +kernel
theorem dJ0_indexOf_7cf53_29 : decode cJ0_indexOf_7cf53 29 = .ok (.aload_n 0, 1) := by decide +kernel
theorem dJ0_indexOf_7cf53_30 : decode cJ0_indexOf_7cf53 30 = .ok (.invokevirtual 505, 3) := by decide +kernel
theorem dJ0_indexOf_7cf53_33 : decode cJ0_indexOf_7cf53 33 = .ok (.invokestatic 640, 3) := by decide +kernel
theorem dJ0_indexOf_7cf53_36 : decode cJ0_indexOf_7cf53 36 = .ok (.ireturn, 1) := by decide +kernel
theorem dJ0_coder_7d493_0 : decode cJ0_coder_7d493 0 = .ok (.getstatic 38, 3) := by decide +kernel
theorem dJ0_coder_7d493_3 : decode cJ0_coder_7d493 3 = .ok (.ifCond .eq 10, 3) := by decide +kernel
theorem dJ0_coder_7d493_6 : decode cJ0_coder_7d493 6 = .ok (.aload_n 0, 1) := by decide +kernel
theorem dJ0_coder_7d493_7 : decode cJ0_coder_7d493 7 = .ok (.getfield 15, 3) := by decide +kernel
theorem dJ0_coder_7d493_10 : decode cJ0_coder_7d493 10 = .ok (.goto 4, 3) := by decide +kernel
theorem dJ0_coder_7d493_13 : decode cJ0_coder_7d493 13 = .ok (.iconst 1, 1) := by decide +kernel
theorem dJ0_coder_7d493_14 : decode cJ0_coder_7d493 14 = .ok (.ireturn, 1) := by decide +kernel
theorem dJ0_isLatin1_aae02_0 : decode cJ0_isLatin1_aae02 0 = .ok (.getstatic 38, 3) := by decide +kernel
theorem dJ0_isLatin1_aae02_3 : decode cJ0_isLatin1_aae02 3 = .ok (.ifCond .eq 14, 3) := by decide +kernel
theorem dJ0_isLatin1_aae02_6 : decode cJ0_isLatin1_aae02 6 = .ok (.aload_n 0, 1) := by decide +kernel
theorem dJ0_isLatin1_aae02_7 : decode cJ0_isLatin1_aae02 7 = .ok (.getfield 15, 3) := by decide +kernel
theorem dJ0_isLatin1_aae02_10 : decode cJ0_isLatin1_aae02 10 = .ok (.ifCond .ne 7, 3) := by decide +kernel
theorem dJ0_isLatin1_aae02_13 : decode cJ0_isLatin1_aae02 13 = .ok (.iconst 1, 1) := by decide +kernel
theorem dJ0_isLatin1_aae02_14 : decode cJ0_isLatin1_aae02 14 = .ok (.goto 4, 3) := by decide +kernel
theorem dJ0_isLatin1_aae02_17 : decode cJ0_isLatin1_aae02 17 = .ok (.iconst 0, 1) := by decide +kernel
theorem dJ0_isLatin1_aae02_18 : decode cJ0_isLatin1_aae02 18 = .ok (.ireturn, 1) := by decide +kernel
theorem dJ0_checkIndex_df160_0 : decode cJ0_checkIndex_df160 0 = .ok (.iload_n 0, 1) := by decide +kernel
theorem dJ0_checkIndex_df160_1 : decode cJ0_checkIndex_df160 1 = .ok (.iload_n 1, 1) := by decide +kernel
theorem dJ0_checkIndex_df160_2 : decode cJ0_checkIndex_df160 2 = .ok (.getstatic 1053, 3) := by decide +kernel
theorem dJ0_checkIndex_df160_5 : decode cJ0_checkIndex_df160 5 = .ok (.invokestatic 1059, 3) := by decide +kernel
theorem dJ0_checkIndex_df160_8 : decode cJ0_checkIndex_df160 8 = .ok (.pop, 1) := by decide +kernel
theorem dJ0_checkIndex_df160_9 : decode cJ0_checkIndex_df160 9 = .ok (.return_, 1) := by decide +kernel
theorem dJ0_checkBoundsBeginEnd_23922_0 : decode cJ0_checkBoundsBeginEnd_23922 0 = .ok (.iload_n 0, 1) := by decide +kernel
theorem dJ0_checkBoundsBeginEnd_23922_1 : decode cJ0_checkBoundsBeginEnd_23922 1 = .ok (.iload_n 1, 1) := by decide +kernel
theorem dJ0_checkBoundsBeginEnd_23922_2 : decode cJ0_checkBoundsBeginEnd_23922 2 = .ok (.iload_n 2, 1) := by decide +kernel
theorem dJ0_checkBoundsBeginEnd_23922_3 : decode cJ0_checkBoundsBeginEnd_23922 3 = .ok (.getstatic 1053, 3) := by decide +kernel
theorem dJ0_checkBoundsBeginEnd_23922_6 : decode cJ0_checkBoundsBeginEnd_23922 6 = .ok (.invokestatic 1062, 3) := by decide +kernel
theorem dJ0_checkBoundsBeginEnd_23922_9 : decode cJ0_checkBoundsBeginEnd_23922 9 = .ok (.pop, 1) := by decide +kernel
theorem dJ0_checkBoundsBeginEnd_23922_10 : decode cJ0_checkBoundsBeginEnd_23922 10 = .ok (.return_, 1) := by decide +kernel
theorem dJ1_charAt_3b067_0 : decode cJ1_charAt_3b067 0 = .ok (.iload_n 1, 1) := by decide +kernel
theorem dJ1_charAt_3b067_1 : decode cJ1_charAt_3b067 1 = .ok (.aload_n 0, 1) := by decide +kernel
theorem dJ1_charAt_3b067_2 : decode cJ1_charAt_3b067 2 = .ok (.arraylength, 1) := by decide +kernel
theorem dJ1_charAt_3b067_3 : decode cJ1_charAt_3b067 3 = .ok (.invokestatic 9, 3) := by decide +kernel
theorem dJ1_charAt_3b067_6 : decode cJ1_charAt_3b067 6 = .ok (.aload_n 0, 1) := by decide +kernel
theorem dJ1_charAt_3b067_7 : decode cJ1_charAt_3b067 7 = .ok (.iload_n 1, 1) := by decide +kernel
theorem dJ1_charAt_3b067_8 : decode cJ1_charAt_3b067 8 = .ok (.baload, 1) := by decide +kernel
theorem dJ1_charAt_3b067_9 : decode cJ1_charAt_3b067 9 = .ok (.sipush 255, 3) := by decide +kernel
theorem dJ1_charAt_3b067_12 : decode cJ1_charAt_3b067 12 = .ok (.iand, 1) := by decide +kernel
theorem dJ1_charAt_3b067_13 : decode cJ1_charAt_3b067 13 = .ok (.i2c, 1) := by decide +kernel
theorem dJ1_charAt_3b067_14 : decode cJ1_charAt_3b067 14 = .ok (.ireturn, 1) := by decide +kernel
theorem dJ1_canEncode_9a6ad_0 : decode cJ1_canEncode_9a6ad 0 = .ok (.iload_n 0, 1) := by decide +kernel
theorem dJ1_canEncode_9a6ad_1 : decode cJ1_canEncode_9a6ad 1 = .ok (.ifCond .lt 14, 3) := by decide +kernel
theorem dJ1_canEncode_9a6ad_4 : decode cJ1_canEncode_9a6ad 4 = .ok (.iload_n 0, 1) := by decide +kernel
theorem dJ1_canEncode_9a6ad_5 : decode cJ1_canEncode_9a6ad 5 = .ok (.sipush 255, 3) := by decide +kernel
theorem dJ1_canEncode_9a6ad_8 : decode cJ1_canEncode_9a6ad 8 = .ok (.if_icmp .gt 7, 3) := by decide +kernel
theorem dJ1_canEncode_9a6ad_11 : decode cJ1_canEncode_9a6ad 11 = .ok (.iconst 1, 1) := by decide +kernel
theorem dJ1_canEncode_9a6ad_12 : decode cJ1_canEncode_9a6ad 12 = .ok (.goto 4, 3) := by decide +kernel
theorem dJ1_canEncode_9a6ad_15 : decode cJ1_canEncode_9a6ad 15 = .ok (.iconst 0, 1) := by decide +kernel
theorem dJ1_canEncode_9a6ad_16 : decode cJ1_canEncode_9a6ad 16 = .ok (.ireturn, 1) := by decide +kernel
theorem dJ1_indexOf_4cfef_0 : decode cJ1_indexOf_4cfef 0 = .ok (.iload_n 1, 1) := by decide +kernel
theorem dJ1_indexOf_4cfef_1 : decode cJ1_indexOf_4cfef 1 = .ok (.invokestatic 88, 3) := by decide +kernel
theorem dJ1_indexOf_4cfef_4 : decode cJ1_indexOf_4cfef 4 = .ok (.ifCond .ne 5, 3) := by decide +kernel
theorem dJ1_indexOf_4cfef_7 : decode cJ1_indexOf_4cfef 7 = .ok (.iconst (-1), 1) := by decide +kernel
theorem dJ1_indexOf_4cfef_8 : decode cJ1_indexOf_4cfef 8 = .ok (.ireturn, 1) := by decide +kernel
theorem dJ1_indexOf_4cfef_9 : decode cJ1_indexOf_4cfef 9 = .ok (.iload_n 2, 1) := by decide +kernel
theorem dJ1_indexOf_4cfef_10 : decode cJ1_indexOf_4cfef 10 = .ok (.iconst 0, 1) := by decide +kernel
theorem dJ1_indexOf_4cfef_11 : decode cJ1_indexOf_4cfef 11 = .ok (.invokestatic 92, 3) := by decide +kernel
theorem dJ1_indexOf_4cfef_14 : decode cJ1_indexOf_4cfef 14 = .ok (.istore_n 2, 1) := by decide +kernel
theorem dJ1_indexOf_4cfef_15 : decode cJ1_indexOf_4cfef 15 = .ok (.iload_n 3, 1) := by decide +kernel
theorem dJ1_indexOf_4cfef_16 : decode cJ1_indexOf_4cfef 16 = .ok (.aload_n 0, 1) := by decide +kernel
theorem dJ1_indexOf_4cfef_17 : decode cJ1_indexOf_4cfef 17 = .ok (.arraylength, 1) := by decide +kernel
theorem dJ1_indexOf_4cfef_18 : decode cJ1_indexOf_4cfef 18 = .ok (.invokestatic 38, 3) := by decide +kernel
theorem dJ1_indexOf_4cfef_21 : decode cJ1_indexOf_4cfef 21 = .ok (.istore_n 3, 1) := by decide +kernel
theorem dJ1_indexOf_4cfef_22 : decode cJ1_indexOf_4cfef 22 = .ok (.iload_n 2, 1) := by decide +kernel
theorem dJ1_indexOf_4cfef_23 : decode cJ1_indexOf_4cfef 23 = .ok (.iload_n 3, 1) := by decide +kernel
theorem dJ1_indexOf_4cfef_24 : decode cJ1_indexOf_4cfef 24 = .ok (.if_icmp .lt 5, 3) := by decide +kernel
theorem dJ1_indexOf_4cfef_27 : decode cJ1_indexOf_4cfef 27 = .ok (.iconst (-1), 1) := by decide +kernel
theorem dJ1_indexOf_4cfef_28 : decode cJ1_indexOf_4cfef 28 = .ok (.ireturn, 1) := by decide +kernel
theorem dJ1_indexOf_4cfef_29 : decode cJ1_indexOf_4cfef 29 = .ok (.aload_n 0, 1) := by decide +kernel
theorem dJ1_indexOf_4cfef_30 : decode cJ1_indexOf_4cfef 30 = .ok (.iload_n 1, 1) := by decide +kernel
theorem dJ1_indexOf_4cfef_31 : decode cJ1_indexOf_4cfef 31 = .ok (.iload_n 2, 1) := by decide +kernel
theorem dJ1_indexOf_4cfef_32 : decode cJ1_indexOf_4cfef 32 = .ok (.iload_n 3, 1) := by decide +kernel
theorem dJ1_indexOf_4cfef_33 : decode cJ1_indexOf_4cfef 33 = .ok (.invokestatic 95, 3) := by decide +kernel
theorem dJ1_indexOf_4cfef_36 : decode cJ1_indexOf_4cfef 36 = .ok (.ireturn, 1) := by decide +kernel
theorem dJ1_indexOfChar_4cfef_0 : decode cJ1_indexOfChar_4cfef 0 = .ok (.iload_n 1, 1) := by decide +kernel
theorem dJ1_indexOfChar_4cfef_1 : decode cJ1_indexOfChar_4cfef 1 = .ok (.i2b, 1) := by decide +kernel
theorem dJ1_indexOfChar_4cfef_2 : decode cJ1_indexOfChar_4cfef 2 = .ok (.istore 4, 2) := by decide +kernel
theorem dJ1_indexOfChar_4cfef_4 : decode cJ1_indexOfChar_4cfef 4 = .ok (.iload_n 2, 1) := by decide +kernel
theorem dJ1_indexOfChar_4cfef_5 : decode cJ1_indexOfChar_4cfef 5 = .ok (.istore 5, 2) := by decide +kernel
theorem dJ1_indexOfChar_4cfef_7 : decode cJ1_indexOfChar_4cfef 7 = .ok (.iload 5, 2) := by decide +kernel
theorem dJ1_indexOfChar_4cfef_9 : decode cJ1_indexOfChar_4cfef 9 = .ok (.iload_n 3, 1) := by decide +kernel
theorem dJ1_indexOfChar_4cfef_10 : decode cJ1_indexOfChar_4cfef 10 = .ok (.if_icmp .ge 21, 3) := by decide +kernel
theorem dJ1_indexOfChar_4cfef_13 : decode cJ1_indexOfChar_4cfef 13 = .ok (.aload_n 0, 1) := by decide +kernel
theorem dJ1_indexOfChar_4cfef_14 : decode cJ1_indexOfChar_4cfef 14 = .ok (.iload 5, 2) := by decide +kernel
theorem dJ1_indexOfChar_4cfef_16 : decode cJ1_indexOfChar_4cfef 16 = .ok (.baload, 1) := by decide +kernel
theorem dJ1_indexOfChar_4cfef_17 : decode cJ1_indexOfChar_4cfef 17 = .ok (.iload 4, 2) := by decide +kernel
theorem dJ1_indexOfChar_4cfef_19 : decode cJ1_indexOfChar_4cfef 19 = .ok (.if_icmp .ne 6, 3) := by decide +kernel
theorem dJ1_indexOfChar_4cfef_22 : decode cJ1_indexOfChar_4cfef 22 = .ok (.iload 5, 2) := by decide +kernel
theorem dJ1_indexOfChar_4cfef_24 : decode cJ1_indexOfChar_4cfef 24 = .ok (.ireturn, 1) := by decide +kernel
theorem dJ1_indexOfChar_4cfef_25 : decode cJ1_indexOfChar_4cfef 25 = .ok (.iinc 5 1, 3) := by decide +kernel
theorem dJ1_indexOfChar_4cfef_28 : decode cJ1_indexOfChar_4cfef 28 = .ok (.goto (-21), 3) := by decide +kernel
theorem dJ1_indexOfChar_4cfef_31 : decode cJ1_indexOfChar_4cfef 31 = .ok (.iconst (-1), 1) := by decide +kernel
theorem dJ1_indexOfChar_4cfef_32 : decode cJ1_indexOfChar_4cfef 32 = .ok (.ireturn, 1) := by decide +kernel
theorem dJ2_getChar_3b067_0 : decode cJ2_getChar_3b067 0 = .ok (.getstatic 44, 3) := by decide +kernel
theorem dJ2_getChar_3b067_3 : decode cJ2_getChar_3b067 3 = .ok (.ifCond .ne 25, 3) := by decide +kernel
theorem dJ2_getChar_3b067_6 : decode cJ2_getChar_3b067 6 = .ok (.iload_n 1, 1) := by decide +kernel
theorem dJ2_getChar_3b067_7 : decode cJ2_getChar_3b067 7 = .ok (.ifCond .lt 11, 3) := by decide +kernel
theorem dJ2_getChar_3b067_10 : decode cJ2_getChar_3b067 10 = .ok (.iload_n 1, 1) := by decide +kernel
theorem dJ2_getChar_3b067_11 : decode cJ2_getChar_3b067 11 = .ok (.aload_n 0, 1) := by decide +kernel
theorem dJ2_getChar_3b067_12 : decode cJ2_getChar_3b067 12 = .ok (.invokestatic 48, 3) := by decide +kernel
theorem dJ2_getChar_3b067_15 : decode cJ2_getChar_3b067 15 = .ok (.if_icmp .lt 13, 3) := by decide +kernel
theorem dJ2_getChar_3b067_18 : decode cJ2_getChar_3b067 18 = .ok (.new 52, 3) := by decide +kernel
theorem dJ2_getChar_3b067_21 : decode cJ2_getChar_3b067 21 = .ok (.dup, 1) := by decide +kernel
theorem dJ2_getChar_3b067_22 : decode cJ2_getChar_3b067 22 = .ok (.ldc 54, 2) := by decide +kernel
theorem dJ2_getChar_3b067_24 : decode cJ2_getChar_3b067 24 = .ok (.invokespecial 56, 3) := by decide +kernel
theorem dJ2_getChar_3b067_27 : decode cJ2_getChar_3b067 27 = .ok (.athrow, 1) := by decide +kernel
theorem dJ2_getChar_3b067_28 : decode cJ2_getChar_3b067 28 = .ok (.iload_n 1, 1) := by decide +kernel
theorem dJ2_getChar_3b067_29 : decode cJ2_getChar_3b067 29 = .ok (.iconst 1, 1) := by decide +kernel
theorem dJ2_getChar_3b067_30 : decode cJ2_getChar_3b067 30 = .ok (.ishl, 1) := by decide +kernel
theorem dJ2_getChar_3b067_31 : decode cJ2_getChar_3b067 31 = .ok (.istore_n 1, 1) := by decide +kernel
theorem dJ2_getChar_3b067_32 : decode cJ2_getChar_3b067 32 = .ok (.aload_n 0, 1) := by decide +kernel
theorem dJ2_getChar_3b067_33 : decode cJ2_getChar_3b067 33 = .ok (.iload_n 1, 1) := by decide +kernel
theorem dJ2_getChar_3b067_34 : decode cJ2_getChar_3b067 34 = .ok (.iinc 1 1, 3) := by decide +kernel
theorem dJ2_getChar_3b067_37 : decode cJ2_getChar_3b067 37 = .ok (.baload, 1) := by decide +kernel
theorem dJ2_getChar_3b067_38 : decode cJ2_getChar_3b067 38 = .ok (.sipush 255, 3) := by decide +kernel
theorem dJ2_getChar_3b067_41 : decode cJ2_getChar_3b067 41 = .ok (.iand, 1) := by decide +kernel
theorem dJ2_getChar_3b067_42 : decode cJ2_getChar_3b067 42 = .ok (.getstatic 59, 3) := by decide +kernel
theorem dJ2_getChar_3b067_45 : decode cJ2_getChar_3b067 45 = .ok (.ishl, 1) := by decide +kernel
theorem dJ2_getChar_3b067_46 : decode cJ2_getChar_3b067 46 = .ok (.aload_n 0, 1) := by decide +kernel
theorem dJ2_getChar_3b067_47 : decode cJ2_getChar_3b067 47 = .ok (.iload_n 1, 1) := by decide +kernel
theorem dJ2_getChar_3b067_48 : decode cJ2_getChar_3b067 48 = .ok (.baload, 1) := by decide +kernel
theorem dJ2_getChar_3b067_49 : decode cJ2_getChar_3b067 49 = .ok (.sipush 255, 3) := by decide +kernel
theorem dJ2_getChar_3b067_52 : decode cJ2_getChar_3b067 52 = .ok (.iand, 1) := by decide +kernel
theorem dJ2_getChar_3b067_53 : decode cJ2_getChar_3b067 53 = .ok (.getstatic 63, 3) := by decide +kernel
theorem dJ2_getChar_3b067_56 : decode cJ2_getChar_3b067 56 = .ok (.ishl, 1) := by decide +kernel
theorem dJ2_getChar_3b067_57 : decode cJ2_getChar_3b067 57 = .ok (.ior, 1) := by decide +kernel
theorem dJ2_getChar_3b067_58 : decode cJ2_getChar_3b067 58 = .ok (.i2c, 1) := by decide +kernel
theorem dJ2_getChar_3b067_59 : decode cJ2_getChar_3b067 59 = .ok (.ireturn, 1) := by decide +kernel
theorem dJ2_length_9d52b_0 : decode cJ2_length_9d52b 0 = .ok (.aload_n 0, 1) := by decide +kernel
theorem dJ2_length_9d52b_1 : decode cJ2_length_9d52b 1 = .ok (.arraylength, 1) := by decide +kernel
theorem dJ2_length_9d52b_2 : decode cJ2_length_9d52b 2 = .ok (.iconst 1, 1) := by decide +kernel
theorem dJ2_length_9d52b_3 : decode cJ2_length_9d52b 3 = .ok (.ishr, 1) := by decide +kernel
theorem dJ2_length_9d52b_4 : decode cJ2_length_9d52b 4 = .ok (.ireturn, 1) := by decide +kernel
theorem dJ2_indexOf_4cfef_0 : decode cJ2_indexOf_4cfef 0 = .ok (.iload_n 2, 1) := by decide +kernel
theorem dJ2_indexOf_4cfef_1 : decode cJ2_indexOf_4cfef 1 = .ok (.iconst 0, 1) := by decide +kernel
theorem dJ2_indexOf_4cfef_2 : decode cJ2_indexOf_4cfef 2 = .ok (.invokestatic 224, 3) := by decide +kernel
theorem dJ2_indexOf_4cfef_5 : decode cJ2_indexOf_4cfef 5 = .ok (.istore_n 2, 1) := by decide +kernel
theorem dJ2_indexOf_4cfef_6 : decode cJ2_indexOf_4cfef 6 = .ok (.iload_n 3, 1) := by decide +kernel
theorem dJ2_indexOf_4cfef_7 : decode cJ2_indexOf_4cfef 7 = .ok (.aload_n 0, 1) := by decide +kernel
theorem dJ2_indexOf_4cfef_8 : decode cJ2_indexOf_4cfef 8 = .ok (.arraylength, 1) := by decide +kernel
theorem dJ2_indexOf_4cfef_9 : decode cJ2_indexOf_4cfef 9 = .ok (.iconst 1, 1) := by decide +kernel
theorem dJ2_indexOf_4cfef_10 : decode cJ2_indexOf_4cfef 10 = .ok (.ishr, 1) := by decide +kernel
theorem dJ2_indexOf_4cfef_11 : decode cJ2_indexOf_4cfef 11 = .ok (.invokestatic 183, 3) := by decide +kernel
theorem dJ2_indexOf_4cfef_14 : decode cJ2_indexOf_4cfef 14 = .ok (.istore_n 3, 1) := by decide +kernel
theorem dJ2_indexOf_4cfef_15 : decode cJ2_indexOf_4cfef 15 = .ok (.iload_n 2, 1) := by decide +kernel
theorem dJ2_indexOf_4cfef_16 : decode cJ2_indexOf_4cfef 16 = .ok (.iload_n 3, 1) := by decide +kernel
theorem dJ2_indexOf_4cfef_17 : decode cJ2_indexOf_4cfef 17 = .ok (.if_icmp .lt 5, 3) := by decide +kernel
theorem dJ2_indexOf_4cfef_20 : decode cJ2_indexOf_4cfef 20 = .ok (.iconst (-1), 1) := by decide +kernel
theorem dJ2_indexOf_4cfef_21 : decode cJ2_indexOf_4cfef 21 = .ok (.ireturn, 1) := by decide +kernel
theorem dJ2_indexOf_4cfef_22 : decode cJ2_indexOf_4cfef 22 = .ok (.iload_n 1, 1) := by decide +kernel
theorem dJ2_indexOf_4cfef_23 : decode cJ2_indexOf_4cfef 23 = .ok (.ldc 227, 2) := by decide +kernel
theorem dJ2_indexOf_4cfef_25 : decode cJ2_indexOf_4cfef 25 = .ok (.if_icmp .ge 11, 3) := by decide +kernel
theorem dJ2_indexOf_4cfef_28 : decode cJ2_indexOf_4cfef 28 = .ok (.aload_n 0, 1) := by decide +kernel
theorem dJ2_indexOf_4cfef_29 : decode cJ2_indexOf_4cfef 29 = .ok (.iload_n 1, 1) := by decide +kernel
theorem dJ2_indexOf_4cfef_30 : decode cJ2_indexOf_4cfef 30 = .ok (.iload_n 2, 1) := by decide +kernel
theorem dJ2_indexOf_4cfef_31 : decode cJ2_indexOf_4cfef 31 = .ok (.iload_n 3, 1) := by decide +kernel
theorem dJ2_indexOf_4cfef_32 : decode cJ2_indexOf_4cfef 32 = .ok (.invokestatic 228, 3) := by decide +kernel
theorem dJ2_indexOf_4cfef_35 : decode cJ2_indexOf_4cfef 35 = .ok (.ireturn, 1) := by decide +kernel
theorem dJ2_indexOf_4cfef_36 : decode cJ2_indexOf_4cfef 36 = .ok (.aload_n 0, 1) := by decide +kernel
theorem dJ2_indexOf_4cfef_37 : decode cJ2_indexOf_4cfef 37 = .ok (.iload_n 1, 1) := by decide +kernel
theorem dJ2_indexOf_4cfef_38 : decode cJ2_indexOf_4cfef 38 = .ok (.iload_n 2, 1) := by decide +kernel
theorem dJ2_indexOf_4cfef_39 : decode cJ2_indexOf_4cfef 39 = .ok (.iload_n 3, 1) := by decide +kernel
theorem dJ2_indexOf_4cfef_40 : decode cJ2_indexOf_4cfef 40 = .ok (.invokestatic 232, 3) := by decide +kernel
theorem dJ2_indexOf_4cfef_43 : decode cJ2_indexOf_4cfef 43 = .ok (.ireturn, 1) := by decide +kernel
theorem dJ2_indexOfChar_4cfef_0 : decode cJ2_indexOfChar_4cfef 0 = .ok (.iload_n 2, 1) := by decide +kernel
theorem dJ2_indexOfChar_4cfef_1 : decode cJ2_indexOfChar_4cfef 1 = .ok (.iload_n 3, 1) := by decide +kernel
theorem dJ2_indexOfChar_4cfef_2 : decode cJ2_indexOfChar_4cfef 2 = .ok (.aload_n 0, 1) := by decide +kernel
theorem dJ2_indexOfChar_4cfef_3 : decode cJ2_indexOfChar_4cfef 3 = .ok (.invokestatic 96, 3) := by decide +kernel
theorem dJ2_indexOfChar_4cfef_6 : decode cJ2_indexOfChar_4cfef 6 = .ok (.aload_n 0, 1) := by decide +kernel
theorem dJ2_indexOfChar_4cfef_7 : decode cJ2_indexOfChar_4cfef 7 = .ok (.iload_n 1, 1) := by decide +kernel
theorem dJ2_indexOfChar_4cfef_8 : decode cJ2_indexOfChar_4cfef 8 = .ok (.iload_n 2, 1) := by decide +kernel
theorem dJ2_indexOfChar_4cfef_9 : decode cJ2_indexOfChar_4cfef 9 = .ok (.iload_n 3, 1) := by decide +kernel
theorem dJ2_indexOfChar_4cfef_10 : decode cJ2_indexOfChar_4cfef 10 = .ok (.invokestatic 244, 3) := by decide +kernel
theorem dJ2_indexOfChar_4cfef_13 : decode cJ2_indexOfChar_4cfef 13 = .ok (.ireturn, 1) := by decide +kernel
theorem dJ2_indexOfCharUnsafe_4cfef_0 : decode cJ2_indexOfCharUnsafe_4cfef 0 = .ok (.iload_n 2, 1) := by decide +kernel
theorem dJ2_indexOfCharUnsafe_4cfef_1 : decode cJ2_indexOfCharUnsafe_4cfef 1 = .ok (.istore 4, 2) := by decide +kernel
theorem dJ2_indexOfCharUnsafe_4cfef_3 : decode cJ2_indexOfCharUnsafe_4cfef 3 = .ok (.iload 4, 2) := by decide +kernel
theorem dJ2_indexOfCharUnsafe_4cfef_5 : decode cJ2_indexOfCharUnsafe_4cfef 5 = .ok (.iload_n 3, 1) := by decide +kernel
theorem dJ2_indexOfCharUnsafe_4cfef_6 : decode cJ2_indexOfCharUnsafe_4cfef 6 = .ok (.if_icmp .ge 22, 3) := by decide +kernel
theorem dJ2_indexOfCharUnsafe_4cfef_9 : decode cJ2_indexOfCharUnsafe_4cfef 9 = .ok (.aload_n 0, 1) := by decide +kernel
theorem dJ2_indexOfCharUnsafe_4cfef_10 : decode cJ2_indexOfCharUnsafe_4cfef 10 = .ok (.iload 4, 2) := by decide +kernel
theorem dJ2_indexOfCharUnsafe_4cfef_12 : decode cJ2_indexOfCharUnsafe_4cfef 12 = .ok (.invokestatic 71, 3) := by decide +kernel
theorem dJ2_indexOfCharUnsafe_4cfef_15 : decode cJ2_indexOfCharUnsafe_4cfef 15 = .ok (.iload_n 1, 1) := by decide +kernel
theorem dJ2_indexOfCharUnsafe_4cfef_16 : decode cJ2_indexOfCharUnsafe_4cfef 16 = .ok (.if_icmp .ne 6, 3) := by decide +kernel
theorem dJ2_indexOfCharUnsafe_4cfef_19 : decode cJ2_indexOfCharUnsafe_4cfef 19 = .ok (.iload 4, 2) := by decide +kernel
theorem dJ2_indexOfCharUnsafe_4cfef_21 : decode cJ2_indexOfCharUnsafe_4cfef 21 = .ok (.ireturn, 1) := by decide +kernel
theorem dJ2_indexOfCharUnsafe_4cfef_22 : decode cJ2_indexOfCharUnsafe_4cfef 22 = .ok (.iinc 4 1, 3) := by decide +kernel
theorem dJ2_indexOfCharUnsafe_4cfef_25 : decode cJ2_indexOfCharUnsafe_4cfef 25 = .ok (.goto (-22), 3) := by decide +kernel
theorem dJ2_indexOfCharUnsafe_4cfef_28 : decode cJ2_indexOfCharUnsafe_4cfef 28 = .ok (.iconst (-1), 1) := by decide +kernel
theorem dJ2_indexOfCharUnsafe_4cfef_29 : decode cJ2_indexOfCharUnsafe_4cfef 29 = .ok (.ireturn, 1) := by decide +kernel
theorem dJ2_indexOfSupplementary_4cfef_0 : decode cJ2_indexOfSupplementary_4cfef 0 = .ok (.iload_n 1, 1) := by decide +kernel
theorem dJ2_indexOfSupplementary_4cfef_1 : decode cJ2_indexOfSupplementary_4cfef 1 = .ok (.invokestatic 164, 3) := by decide +kernel
theorem dJ2_indexOfSupplementary_4cfef_4 : decode cJ2_indexOfSupplementary_4cfef 4 = .ok (.ifCond .eq 65, 3) := by decide +kernel
theorem dJ2_indexOfSupplementary_4cfef_7 : decode cJ2_indexOfSupplementary_4cfef 7 = .ok (.iload_n 1, 1) := by decide +kernel
theorem dJ2_indexOfSupplementary_4cfef_8 : decode cJ2_indexOfSupplementary_4cfef 8 = .ok (.invokestatic 157, 3) := by decide +kernel
theorem dJ2_indexOfSupplementary_4cfef_11 : decode cJ2_indexOfSupplementary_4cfef 11 = .ok (.istore 4, 2) := by decide +kernel
theorem dJ2_indexOfSupplementary_4cfef_13 : decode cJ2_indexOfSupplementary_4cfef 13 = .ok (.iload_n 1, 1) := by decide +kernel
theorem dJ2_indexOfSupplementary_4cfef_14 : decode cJ2_indexOfSupplementary_4cfef 14 = .ok (.invokestatic 161, 3) := by decide +kernel
theorem dJ2_indexOfSupplementary_4cfef_17 : decode cJ2_indexOfSupplementary_4cfef 17 = .ok (.istore 5, 2) := by decide +kernel
theorem dJ2_indexOfSupplementary_4cfef_19 : decode cJ2_indexOfSupplementary_4cfef 19 = .ok (.iload_n 2, 1) := by decide +kernel
theorem dJ2_indexOfSupplementary_4cfef_20 : decode cJ2_indexOfSupplementary_4cfef 20 = .ok (.iload_n 3, 1) := by decide +kernel
theorem dJ2_indexOfSupplementary_4cfef_21 : decode cJ2_indexOfSupplementary_4cfef 21 = .ok (.aload_n 0, 1) := by decide +kernel
theorem dJ2_indexOfSupplementary_4cfef_22 : decode cJ2_indexOfSupplementary_4cfef 22 = .ok (.invokestatic 96, 3) := by decide +kernel
theorem dJ2_indexOfSupplementary_4cfef_25 : decode cJ2_indexOfSupplementary_4cfef 25 = .ok (.iload_n 2, 1) := by decide +kernel
theorem dJ2_indexOfSupplementary_4cfef_26 : decode cJ2_indexOfSupplementary_4cfef 26 = .ok (.istore 6, 2) := by decide +kernel
theorem dJ2_indexOfSupplementary_4cfef_28 : decode cJ2_indexOfSupplementary_4cfef 28 = .ok (.iload 6, 2) := by decide +kernel
theorem dJ2_indexOfSupplementary_4cfef_30 : decode cJ2_indexOfSupplementary_4cfef 30 = .ok (.iload_n 3, 1) := by decide +kernel
theorem dJ2_indexOfSupplementary_4cfef_31 : decode cJ2_indexOfSupplementary_4cfef 31 = .ok (.iconst 1, 1) := by decide +kernel
theorem dJ2_indexOfSupplementary_4cfef_32 : decode cJ2_indexOfSupplementary_4cfef 32 = .ok (.isub, 1) := by decide +kernel
theorem dJ2_indexOfSupplementary_4cfef_33 : decode cJ2_indexOfSupplementary_4cfef 33 = .ok (.if_icmp .ge 36, 3) := by decide +kernel
theorem dJ2_indexOfSupplementary_4cfef_36 : decode cJ2_indexOfSupplementary_4cfef 36 = .ok (.aload_n 0, 1) := by decide +kernel
theorem dJ2_indexOfSupplementary_4cfef_37 : decode cJ2_indexOfSupplementary_4cfef 37 = .ok (.iload 6, 2) := by decide +kernel
theorem dJ2_indexOfSupplementary_4cfef_39 : decode cJ2_indexOfSupplementary_4cfef 39 = .ok (.invokestatic 71, 3) := by decide +kernel
theorem dJ2_indexOfSupplementary_4cfef_42 : decode cJ2_indexOfSupplementary_4cfef 42 = .ok (.iload 4, 2) := by decide +kernel
theorem dJ2_indexOfSupplementary_4cfef_44 : decode cJ2_indexOfSupplementary_4cfef 44 = .ok (.if_icmp .ne 19, 3) := by decide +kernel
theorem dJ2_indexOfSupplementary_4cfef_47 : decode cJ2_indexOfSupplementary_4cfef 47 = .ok (.aload_n 0, 1) := by decide +kernel
theorem dJ2_indexOfSupplementary_4cfef_48 : decode cJ2_indexOfSupplementary_4cfef 48 = .ok (.iload 6, 2) := by decide +kernel
theorem dJ2_indexOfSupplementary_4cfef_50 : decode cJ2_indexOfSupplementary_4cfef 50 = .ok (.iconst 1, 1) := by decide +kernel
theorem dJ2_indexOfSupplementary_4cfef_51 : decode cJ2_indexOfSupplementary_4cfef 51 = .ok (.iadd, 1) := by decide +kernel
theorem dJ2_indexOfSupplementary_4cfef_52 : decode cJ2_indexOfSupplementary_4cfef 52 = .ok (.invokestatic 71, 3) := by decide +kernel
theorem dJ2_indexOfSupplementary_4cfef_55 : decode cJ2_indexOfSupplementary_4cfef 55 = .ok (.iload 5, 2) := by decide +kernel
theorem dJ2_indexOfSupplementary_4cfef_57 : decode cJ2_indexOfSupplementary_4cfef 57 = .ok (.if_icmp .ne 6, 3) := by decide +kernel
theorem dJ2_indexOfSupplementary_4cfef_60 : decode cJ2_indexOfSupplementary_4cfef 60 = .ok (.iload 6, 2) := by decide +kernel
theorem dJ2_indexOfSupplementary_4cfef_62 : decode cJ2_indexOfSupplementary_4cfef 62 = .ok (.ireturn, 1) := by decide +kernel
theorem dJ2_indexOfSupplementary_4cfef_63 : decode cJ2_indexOfSupplementary_4cfef 63 = .ok (.iinc 6 1, 3) := by decide +kernel
theorem dJ2_indexOfSupplementary_4cfef_66 : decode cJ2_indexOfSupplementary_4cfef 66 = .ok (.goto (-38), 3) := by decide +kernel
theorem dJ2_indexOfSupplementary_4cfef_69 : decode cJ2_indexOfSupplementary_4cfef 69 = .ok (.iconst (-1), 1) := by decide +kernel
theorem dJ2_indexOfSupplementary_4cfef_70 : decode cJ2_indexOfSupplementary_4cfef 70 = .ok (.ireturn, 1) := by decide +kernel
theorem dJ2_charAt_3b067_0 : decode cJ2_charAt_3b067 0 = .ok (.iload_n 1, 1) := by decide +kernel
theorem dJ2_charAt_3b067_1 : decode cJ2_charAt_3b067 1 = .ok (.aload_n 0, 1) := by decide +kernel
theorem dJ2_charAt_3b067_2 : decode cJ2_charAt_3b067 2 = .ok (.invokestatic 67, 3) := by decide +kernel
theorem dJ2_charAt_3b067_5 : decode cJ2_charAt_3b067 5 = .ok (.aload_n 0, 1) := by decide +kernel
theorem dJ2_charAt_3b067_6 : decode cJ2_charAt_3b067 6 = .ok (.iload_n 1, 1) := by decide +kernel
theorem dJ2_charAt_3b067_7 : decode cJ2_charAt_3b067 7 = .ok (.invokestatic 71, 3) := by decide +kernel
theorem dJ2_charAt_3b067_10 : decode cJ2_charAt_3b067 10 = .ok (.ireturn, 1) := by decide +kernel
theorem dJ2_checkIndex_2214a_0 : decode cJ2_checkIndex_2214a 0 = .ok (.iload_n 0, 1) := by decide +kernel
theorem dJ2_checkIndex_2214a_1 : decode cJ2_checkIndex_2214a 1 = .ok (.aload_n 1, 1) := by decide +kernel
theorem dJ2_checkIndex_2214a_2 : decode cJ2_checkIndex_2214a 2 = .ok (.invokestatic 48, 3) := by decide +kernel
theorem dJ2_checkIndex_2214a_5 : decode cJ2_checkIndex_2214a 5 = .ok (.invokestatic 414, 3) := by decide +kernel
theorem dJ2_checkIndex_2214a_8 : decode cJ2_checkIndex_2214a 8 = .ok (.return_, 1) := by decide +kernel
theorem dJ2_checkBoundsBeginEnd_d044e_0 : decode cJ2_checkBoundsBeginEnd_d044e 0 = .ok (.iload_n 0, 1) := by decide +kernel
theorem dJ2_checkBoundsBeginEnd_d044e_1 : decode cJ2_checkBoundsBeginEnd_d044e 1 = .ok (.iload_n 1, 1) := by decide +kernel
theorem dJ2_checkBoundsBeginEnd_d044e_2 : decode cJ2_checkBoundsBeginEnd_d044e 2 = .ok (.aload_n 2, 1) := by decide +kernel
theorem dJ2_checkBoundsBeginEnd_d044e_3 : decode cJ2_checkBoundsBeginEnd_d044e 3 = .ok (.invokestatic 48, 3) := by decide +kernel
theorem dJ2_checkBoundsBeginEnd_d044e_6 : decode cJ2_checkBoundsBeginEnd_d044e 6 = .ok (.invokestatic 241, 3) := by decide +kernel
theorem dJ2_checkBoundsBeginEnd_d044e_9 : decode cJ2_checkBoundsBeginEnd_d044e 9 = .ok (.return_, 1) := by decide +kernel
theorem dJ7_fill_53178_0 : decode cJ7_fill_53178 0 = .ok (.iconst 0, 1) := by decide +kernel
theorem dJ7_fill_53178_1 : decode cJ7_fill_53178 1 = .ok (.istore_n 2, 1) := by decide +kernel
theorem dJ7_fill_53178_2 : decode cJ7_fill_53178 2 = .ok (.aload_n 0, 1) := by decide +kernel
theorem dJ7_fill_53178_3 : decode cJ7_fill_53178 3 = .ok (.arraylength, 1) := by decide +kernel
theorem dJ7_fill_53178_4 : decode cJ7_fill_53178 4 = .ok (.istore_n 3, 1) := by decide +kernel
theorem dJ7_fill_53178_5 : decode cJ7_fill_53178 5 = .ok (.iload_n 2, 1) := by decide +kernel
theorem dJ7_fill_53178_6 : decode cJ7_fill_53178 6 = .ok (.iload_n 3, 1) := by decide +kernel
theorem dJ7_fill_53178_7 : decode cJ7_fill_53178 7 = .ok (.if_icmp .ge 13, 3) := by decide +kernel
theorem dJ7_fill_53178_10 : decode cJ7_fill_53178 10 = .ok (.aload_n 0, 1) := by decide +kernel
theorem dJ7_fill_53178_11 : decode cJ7_fill_53178 11 = .ok (.iload_n 2, 1) := by decide +kernel
theorem dJ7_fill_53178_12 : decode cJ7_fill_53178 12 = .ok (.iload_n 1, 1) := by decide +kernel
theorem dJ7_fill_53178_13 : decode cJ7_fill_53178 13 = .ok (.iastore, 1) := by decide +kernel
theorem dJ7_fill_53178_14 : decode cJ7_fill_53178 14 = .ok (.iinc 2 1, 3) := by decide +kernel
theorem dJ7_fill_53178_17 : decode cJ7_fill_53178 17 = .ok (.goto (-12), 3) := by decide +kernel
theorem dJ7_fill_53178_20 : decode cJ7_fill_53178 20 = .ok (.return_, 1) := by decide +kernel
theorem dJ3_checkIndex_8e157_0 : decode cJ3_checkIndex_8e157 0 = .ok (.iload_n 0, 1) := by decide +kernel
theorem dJ3_checkIndex_8e157_1 : decode cJ3_checkIndex_8e157 1 = .ok (.ifCond .lt 8, 3) := by decide +kernel
theorem dJ3_checkIndex_8e157_4 : decode cJ3_checkIndex_8e157 4 = .ok (.iload_n 0, 1) := by decide +kernel
theorem dJ3_checkIndex_8e157_5 : decode cJ3_checkIndex_8e157 5 = .ok (.iload_n 1, 1) := by decide +kernel
theorem dJ3_checkIndex_8e157_6 : decode cJ3_checkIndex_8e157 6 = .ok (.if_icmp .lt 10, 3) := by decide +kernel
theorem dJ3_checkIndex_8e157_9 : decode cJ3_checkIndex_8e157 9 = .ok (.aload_n 2, 1) := by decide +kernel
theorem dJ3_checkIndex_8e157_10 : decode cJ3_checkIndex_8e157 10 = .ok (.iload_n 0, 1) := by decide +kernel
theorem dJ3_checkIndex_8e157_11 : decode cJ3_checkIndex_8e157 11 = .ok (.iload_n 1, 1) := by decide +kernel
theorem dJ3_checkIndex_8e157_12 : decode cJ3_checkIndex_8e157 12 = .ok (.invokestatic 95, 3) := by decide +kernel
theorem dJ3_checkIndex_8e157_15 : decode cJ3_checkIndex_8e157 15 = .ok (.athrow, 1) := by decide +kernel
theorem dJ3_checkIndex_8e157_16 : decode cJ3_checkIndex_8e157 16 = .ok (.iload_n 0, 1) := by decide +kernel
theorem dJ3_checkIndex_8e157_17 : decode cJ3_checkIndex_8e157 17 = .ok (.ireturn, 1) := by decide +kernel
theorem dJ3_checkFromToIndex_8c36e_0 : decode cJ3_checkFromToIndex_8c36e 0 = .ok (.iload_n 0, 1) := by decide +kernel
theorem dJ3_checkFromToIndex_8c36e_1 : decode cJ3_checkFromToIndex_8c36e 1 = .ok (.ifCond .lt 13, 3) := by decide +kernel
theorem dJ3_checkFromToIndex_8c36e_4 : decode cJ3_checkFromToIndex_8c36e 4 = .ok (.iload_n 0, 1) := by decide +kernel
theorem dJ3_checkFromToIndex_8c36e_5 : decode cJ3_checkFromToIndex_8c36e 5 = .ok (.iload_n 1, 1) := by decide +kernel
theorem dJ3_checkFromToIndex_8c36e_6 : decode cJ3_checkFromToIndex_8c36e 6 = .ok (.if_icmp .gt 8, 3) := by decide +kernel
theorem dJ3_checkFromToIndex_8c36e_9 : decode cJ3_checkFromToIndex_8c36e 9 = .ok (.iload_n 1, 1) := by decide +kernel
theorem dJ3_checkFromToIndex_8c36e_10 : decode cJ3_checkFromToIndex_8c36e 10 = .ok (.iload_n 2, 1) := by decide +kernel
theorem dJ3_checkFromToIndex_8c36e_11 : decode cJ3_checkFromToIndex_8c36e 11 = .ok (.if_icmp .le 11, 3) := by decide +kernel
theorem dJ3_checkFromToIndex_8c36e_14 : decode cJ3_checkFromToIndex_8c36e 14 = .ok (.aload_n 3, 1) := by decide +kernel
theorem dJ3_checkFromToIndex_8c36e_15 : decode cJ3_checkFromToIndex_8c36e 15 = .ok (.iload_n 0, 1) := by decide +kernel
theorem dJ3_checkFromToIndex_8c36e_16 : decode cJ3_checkFromToIndex_8c36e 16 = .ok (.iload_n 1, 1) := by decide +kernel
theorem dJ3_checkFromToIndex_8c36e_17 : decode cJ3_checkFromToIndex_8c36e 17 = .ok (.iload_n 2, 1) := by decide +kernel
theorem dJ3_checkFromToIndex_8c36e_18 : decode cJ3_checkFromToIndex_8c36e 18 = .ok (.invokestatic 99, 3) := by decide +kernel
theorem dJ3_checkFromToIndex_8c36e_21 : decode cJ3_checkFromToIndex_8c36e 21 = .ok (.athrow, 1) := by decide +kernel
theorem dJ3_checkFromToIndex_8c36e_22 : decode cJ3_checkFromToIndex_8c36e 22 = .ok (.iload_n 0, 1) := by decide +kernel
theorem dJ3_checkFromToIndex_8c36e_23 : decode cJ3_checkFromToIndex_8c36e 23 = .ok (.ireturn, 1) := by decide +kernel
end
section
theorem dX4_init_0 : decode cX4_init 0 = .ok (.aload_n 0, 1) := by decide +kernel
theorem dX4_init_1 : decode cX4_init 1 = .ok (.invokespecial 3, 3) := by decide +kernel
theorem dX4_init_4 : decode cX4_init 4 = .ok (.aload_n 0, 1) := by decide +kernel
theorem dX4_init_5 : decode cX4_init 5 = .ok (.new 9, 3) := by decide +kernel
theorem dX4_init_8 : decode cX4_init 8 = .ok (.dup, 1) := by decide +kernel
theorem dX4_init_9 : decode cX4_init 9 = .ok (.invokespecial 11, 3) := by decide +kernel
theorem dX4_init_12 : decode cX4_init 12 = .ok (.putfield 12, 3) := by decide +kernel
theorem dX4_init_15 : decode cX4_init 15 = .ok (.aload_n 0, 1) := by decide +kernel
theorem dX4_init_16 : decode cX4_init 16 = .ok (.new 9, 3) := by decide +kernel
theorem dX4_init_19 : decode cX4_init 19 = .ok (.dup, 1) := by decide +kernel
theorem dX4_init_20 : decode cX4_init 20 = .ok (.invokespecial 11, 3) := by decide +kernel
theorem dX4_init_23 : decode cX4_init 23 = .ok (.putfield 16, 3) := by decide +kernel
theorem dX4_init_26 : decode cX4_init 26 = .ok (.aload_n 0, 1) := by decide +kernel
theorem dX4_init_27 : decode cX4_init 27 = .ok (.new 9, 3) := by decide +kernel
theorem dX4_init_30 : decode cX4_init 30 = .ok (.dup, 1) := by decide +kernel
theorem dX4_init_31 : decode cX4_init 31 = .ok (.invokespecial 11, 3) := by decide +kernel
theorem dX4_init_34 : decode cX4_init 34 = .ok (.putfield 19, 3) := by decide +kernel
theorem dX4_init_37 : decode cX4_init 37 = .ok (.aload_n 0, 1) := by decide +kernel
theorem dX4_init_38 : decode cX4_init 38 = .ok (.new 22, 3) := by decide +kernel
theorem dX4_init_41 : decode cX4_init 41 = .ok (.dup, 1) := by decide +kernel
theorem dX4_init_42 : decode cX4_init 42 = .ok (.invokespecial 24, 3) := by decide +kernel
theorem dX4_init_45 : decode cX4_init 45 = .ok (.putfield 25, 3) := by decide +kernel
theorem dX4_init_48 : decode cX4_init 48 = .ok (.aload_n 0, 1) := by decide +kernel
theorem dX4_init_49 : decode cX4_init 49 = .ok (.new 29, 3) := by decide +kernel
theorem dX4_init_52 : decode cX4_init 52 = .ok (.dup, 1) := by decide +kernel
theorem dX4_init_53 : decode cX4_init 53 = .ok (.invokespecial 31, 3) := by decide +kernel
theorem dX4_init_56 : decode cX4_init 56 = .ok (.putfield 32, 3) := by decide +kernel
theorem dX4_init_59 : decode cX4_init 59 = .ok (.aload_n 0, 1) := by decide +kernel
theorem dX4_init_60 : decode cX4_init 60 = .ok (.new 36, 3) := by decide +kernel
theorem dX4_init_63 : decode cX4_init 63 = .ok (.dup, 1) := by decide +kernel
theorem dX4_init_64 : decode cX4_init 64 = .ok (.invokespecial 38, 3) := by decide +kernel
theorem dX4_init_67 : decode cX4_init 67 = .ok (.putfield 39, 3) := by decide +kernel
theorem dX4_init_70 : decode cX4_init 70 = .ok (.aload_n 0, 1) := by decide +kernel
theorem dX4_init_71 : decode cX4_init 71 = .ok (.bipush 20, 2) := by decide +kernel
theorem dX4_init_73 : decode cX4_init 73 = .ok (.newarray .int, 2) := by decide +kernel
theorem dX4_init_75 : decode cX4_init 75 = .ok (.putfield 43, 3) := by decide +kernel
theorem dX4_init_78 : decode cX4_init 78 = .ok (.aload_n 0, 1) := by decide +kernel
theorem dX4_init_79 : decode cX4_init 79 = .ok (.bipush 7, 2) := by decide +kernel
theorem dX4_init_81 : decode cX4_init 81 = .ok (.newarray .int, 2) := by decide +kernel
theorem dX4_init_83 : decode cX4_init 83 = .ok (.putfield 47, 3) := by decide +kernel
theorem dX4_init_86 : decode cX4_init 86 = .ok (.aload_n 0, 1) := by decide +kernel
theorem dX4_init_87 : decode cX4_init 87 = .ok (.bipush 81, 2) := by decide +kernel
theorem dX4_init_89 : decode cX4_init 89 = .ok (.newarray .int, 2) := by decide +kernel
theorem dX4_init_91 : decode cX4_init 91 = .ok (.putfield 50, 3) := by decide +kernel
theorem dX4_init_94 : decode cX4_init 94 = .ok (.aload_n 0, 1) := by decide +kernel
theorem dX4_init_95 : decode cX4_init 95 = .ok (.bipush 64, 2) := by decide +kernel
theorem dX4_init_97 : decode cX4_init 97 = .ok (.newarray .int, 2) := by decide +kernel
theorem dX4_init_99 : decode cX4_init 99 = .ok (.putfield 53, 3) := by decide +kernel
theorem dX4_init_102 : decode cX4_init 102 = .ok (.return_, 1) := by decide +kernel
theorem dX4_letter_0 : decode cX4_letter 0 = .ok (.iload_n 1, 1) := by decide +kernel
theorem dX4_letter_1 : decode cX4_letter 1 = .ok (.iconst 0, 1) := by decide +kernel
theorem dX4_letter_2 : decode cX4_letter 2 = .ok (.sipush 255, 3) := by decide +kernel
theorem dX4_letter_5 : decode cX4_letter 5 = .ok (.invokestatic 56, 3) := by decide +kernel
theorem dX4_letter_8 : decode cX4_letter 8 = .ok (.istore_n 2, 1) := by decide +kernel
theorem dX4_letter_9 : decode cX4_letter 9 = .ok (.iload_n 2, 1) := by decide +kernel
theorem dX4_letter_10 : decode cX4_letter 10 = .ok (.ifCond .ne 18, 3) := by decide +kernel
theorem dX4_letter_13 : decode cX4_letter 13 = .ok (.aload_n 0, 1) := by decide +kernel
theorem dX4_letter_14 : decode cX4_letter 14 = .ok (.getfield 39, 3) := by decide +kernel
theorem dX4_letter_17 : decode cX4_letter 17 = .ok (.getfield 60, 3) := by decide +kernel
theorem dX4_letter_20 : decode cX4_letter 20 = .ok (.bipush 96, 2) := by decide +kernel
theorem dX4_letter_22 : decode cX4_letter 22 = .ok (.if_icmp .lt 6, 3) := by decide +kernel
theorem dX4_letter_25 : decode cX4_letter 25 = .ok (.bipush (-6), 2) := by decide +kernel
theorem dX4_letter_27 : decode cX4_letter 27 = .ok (.istore_n 2, 1) := by decide +kernel
theorem dX4_letter_28 : decode cX4_letter 28 = .ok (.iload_n 2, 1) := by decide +kernel
theorem dX4_letter_29 : decode cX4_letter 29 = .ok (.ifCond .eq 9, 3) := by decide +kernel
theorem dX4_letter_32 : decode cX4_letter 32 = .ok (.aload_n 0, 1) := by decide +kernel
theorem dX4_letter_33 : decode cX4_letter 33 = .ok (.iload_n 2, 1) := by decide +kernel
theorem dX4_letter_34 : decode cX4_letter 34 = .ok (.invokevirtual 64, 3) := by decide +kernel
theorem dX4_letter_37 : decode cX4_letter 37 = .ok (.ireturn, 1) := by decide +kernel
theorem dX4_letter_38 : decode cX4_letter 38 = .ok (.aload_n 0, 1) := by decide +kernel
theorem dX4_letter_39 : decode cX4_letter 39 = .ok (.getfield 39, 3) := by decide +kernel
theorem dX4_letter_42 : decode cX4_letter 42 = .ok (.iload_n 1, 1) := by decide +kernel
theorem dX4_letter_43 : decode cX4_letter 43 = .ok (.i2c, 1) := by decide +kernel
theorem dX4_letter_44 : decode cX4_letter 44 = .ok (.invokevirtual 68, 3) := by decide +kernel
theorem dX4_letter_47 : decode cX4_letter 47 = .ok (.aload_n 0, 1) := by decide +kernel
theorem dX4_letter_48 : decode cX4_letter 48 = .ok (.getfield 39, 3) := by decide +kernel
theorem dX4_letter_51 : decode cX4_letter 51 = .ok (.getfield 60, 3) := by decide +kernel
theorem dX4_letter_54 : decode cX4_letter 54 = .ok (.ireturn, 1) := by decide +kernel
theorem dX4_house_0 : decode cX4_house 0 = .ok (.aload_n 0, 1) := by decide +kernel
theorem dX4_house_1 : decode cX4_house 1 = .ok (.getfield 39, 3) := by decide +kernel
theorem dX4_house_4 : decode cX4_house 4 = .ok (.invokevirtual 72, 3) := by decide +kernel
theorem dX4_house_7 : decode cX4_house 7 = .ok (.istore_n 1, 1) := by decide +kernel
theorem dX4_house_8 : decode cX4_house 8 = .ok (.iload_n 1, 1) := by decide +kernel
theorem dX4_house_9 : decode cX4_house 9 = .ok (.ifCond .lt 11, 3) := by decide +kernel
theorem dX4_house_12 : decode cX4_house 12 = .ok (.sipush (-1000), 3) := by decide +kernel
theorem dX4_house_15 : decode cX4_house 15 = .ok (.iload_n 1, 1) := by decide +kernel
theorem dX4_house_16 : decode cX4_house 16 = .ok (.isub, 1) := by decide +kernel
theorem dX4_house_17 : decode cX4_house 17 = .ok (.goto 7, 3) := by decide +kernel
theorem dX4_house_20 : decode cX4_house 20 = .ok (.aload_n 0, 1) := by decide +kernel
theorem dX4_house_21 : decode cX4_house 21 = .ok (.invokevirtual 76, 3) := by decide +kernel
theorem dX4_house_24 : decode cX4_house 24 = .ok (.istore_n 2, 1) := by decide +kernel
theorem dX4_house_25 : decode cX4_house 25 = .ok (.aload_n 0, 1) := by decide +kernel
theorem dX4_house_26 : decode cX4_house 26 = .ok (.getfield 39, 3) := by decide +kernel
theorem dX4_house_29 : decode cX4_house 29 = .ok (.iconst 0, 1) := by decide +kernel
theorem dX4_house_30 : decode cX4_house 30 = .ok (.putfield 60, 3) := by decide +kernel
theorem dX4_house_33 : decode cX4_house 33 = .ok (.iload_n 2, 1) := by decide +kernel
theorem dX4_house_34 : decode cX4_house 34 = .ok (.ireturn, 1) := by decide +kernel
theorem dX4_eater_0 : decode cX4_eater 0 = .ok (.aload_n 0, 1) := by decide +kernel
theorem dX4_eater_1 : decode cX4_eater 1 = .ok (.getfield 12, 3) := by decide +kernel
theorem dX4_eater_4 : decode cX4_eater 4 = .ok (.iload_n 1, 1) := by decide +kernel
theorem dX4_eater_5 : decode cX4_eater 5 = .ok (.invokevirtual 79, 3) := by decide +kernel
theorem dX4_eater_8 : decode cX4_eater 8 = .ok (.ifCond .ne 9, 3) := by decide +kernel
theorem dX4_eater_11 : decode cX4_eater 11 = .ok (.aload_n 0, 1) := by decide +kernel
theorem dX4_eater_12 : decode cX4_eater 12 = .ok (.iconst (-1), 1) := by decide +kernel
theorem dX4_eater_13 : decode cX4_eater 13 = .ok (.invokevirtual 64, 3) := by decide +kernel
theorem dX4_eater_16 : decode cX4_eater 16 = .ok (.ireturn, 1) := by decide +kernel
theorem dX4_eater_17 : decode cX4_eater 17 = .ok (.iload_n 2, 1) := by decide +kernel
theorem dX4_eater_18 : decode cX4_eater 18 = .ok (.iconst 0, 1) := by decide +kernel
theorem dX4_eater_19 : decode cX4_eater 19 = .ok (.iconst 3, 1) := by decide +kernel
theorem dX4_eater_20 : decode cX4_eater 20 = .ok (.invokestatic 83, 3) := by decide +kernel
theorem dX4_eater_23 : decode cX4_eater 23 = .ok (.ifCond .ne 10, 3) := by decide +kernel
theorem dX4_eater_26 : decode cX4_eater 26 = .ok (.aload_n 0, 1) := by decide +kernel
theorem dX4_eater_27 : decode cX4_eater 27 = .ok (.bipush (-2), 2) := by decide +kernel
theorem dX4_eater_29 : decode cX4_eater 29 = .ok (.invokevirtual 64, 3) := by decide +kernel
theorem dX4_eater_32 : decode cX4_eater 32 = .ok (.ireturn, 1) := by decide +kernel
theorem dX4_eater_33 : decode cX4_eater 33 = .ok (.aload_n 0, 1) := by decide +kernel
theorem dX4_eater_34 : decode cX4_eater 34 = .ok (.getfield 12, 3) := by decide +kernel
theorem dX4_eater_37 : decode cX4_eater 37 = .ok (.getfield 87, 3) := by decide +kernel
theorem dX4_eater_40 : decode cX4_eater 40 = .ok (.iload_n 1, 1) := by decide +kernel
theorem dX4_eater_41 : decode cX4_eater 41 = .ok (.aaload, 1) := by decide +kernel
theorem dX4_eater_42 : decode cX4_eater 42 = .ok (.iload_n 2, 1) := by decide +kernel
theorem dX4_eater_43 : decode cX4_eater 43 = .ok (.iaload, 1) := by decide +kernel
theorem dX4_eater_44 : decode cX4_eater 44 = .ok (.ireturn, 1) := by decide +kernel
theorem dX4_stock_0 : decode cX4_stock 0 = .ok (.iload_n 1, 1) := by decide +kernel
theorem dX4_stock_1 : decode cX4_stock 1 = .ok (.invokestatic 91, 3) := by decide +kernel
theorem dX4_stock_4 : decode cX4_stock 4 = .ok (.ifCond .eq 13, 3) := by decide +kernel
theorem dX4_stock_7 : decode cX4_stock 7 = .ok (.iload_n 2, 1) := by decide +kernel
theorem dX4_stock_8 : decode cX4_stock 8 = .ok (.iconst 0, 1) := by decide +kernel
theorem dX4_stock_9 : decode cX4_stock 9 = .ok (.bipush 60, 2) := by decide +kernel
theorem dX4_stock_11 : decode cX4_stock 11 = .ok (.invokestatic 56, 3) := by decide +kernel
theorem dX4_stock_14 : decode cX4_stock 14 = .ok (.goto 4, 3) := by decide +kernel
theorem dX4_stock_17 : decode cX4_stock 17 = .ok (.iconst (-1), 1) := by decide +kernel
theorem dX4_stock_18 : decode cX4_stock 18 = .ok (.istore_n 3, 1) := by decide +kernel
theorem dX4_stock_19 : decode cX4_stock 19 = .ok (.iload_n 3, 1) := by decide +kernel
theorem dX4_stock_20 : decode cX4_stock 20 = .ok (.ifCond .eq 9, 3) := by decide +kernel
theorem dX4_stock_23 : decode cX4_stock 23 = .ok (.aload_n 0, 1) := by decide +kernel
theorem dX4_stock_24 : decode cX4_stock 24 = .ok (.iload_n 3, 1) := by decide +kernel
theorem dX4_stock_25 : decode cX4_stock 25 = .ok (.invokevirtual 64, 3) := by decide +kernel
theorem dX4_stock_28 : decode cX4_stock 28 = .ok (.ireturn, 1) := by decide +kernel
theorem dX4_stock_29 : decode cX4_stock 29 = .ok (.aload_n 0, 1) := by decide +kernel
theorem dX4_stock_30 : decode cX4_stock 30 = .ok (.getfield 12, 3) := by decide +kernel
theorem dX4_stock_33 : decode cX4_stock 33 = .ok (.getfield 94, 3) := by decide +kernel
theorem dX4_stock_36 : decode cX4_stock 36 = .ok (.iload_n 1, 1) := by decide +kernel
theorem dX4_stock_37 : decode cX4_stock 37 = .ok (.iaload, 1) := by decide +kernel
theorem dX4_stock_38 : decode cX4_stock 38 = .ok (.istore 4, 2) := by decide +kernel
theorem dX4_stock_40 : decode cX4_stock 40 = .ok (.aload_n 0, 1) := by decide +kernel
theorem dX4_stock_41 : decode cX4_stock 41 = .ok (.getfield 12, 3) := by decide +kernel
theorem dX4_stock_44 : decode cX4_stock 44 = .ok (.getfield 94, 3) := by decide +kernel
theorem dX4_stock_47 : decode cX4_stock 47 = .ok (.iload_n 1, 1) := by decide +kernel
theorem dX4_stock_48 : decode cX4_stock 48 = .ok (.iload_n 2, 1) := by decide +kernel
theorem dX4_stock_49 : decode cX4_stock 49 = .ok (.iastore, 1) := by decide +kernel
theorem dX4_stock_50 : decode cX4_stock 50 = .ok (.iload 4, 2) := by decide +kernel
theorem dX4_stock_52 : decode cX4_stock 52 = .ok (.ireturn, 1) := by decide +kernel
theorem dX4_open_0 : decode cX4_open 0 = .ok (.iload_n 1, 1) := by decide +kernel
theorem dX4_open_1 : decode cX4_open 1 = .ok (.iconst 0, 1) := by decide +kernel
theorem dX4_open_2 : decode cX4_open 2 = .ok (.bipush 6, 2) := by decide +kernel
theorem dX4_open_4 : decode cX4_open 4 = .ok (.invokestatic 83, 3) := by decide +kernel
theorem dX4_open_7 : decode cX4_open 7 = .ok (.ifCond .ne 9, 3) := by decide +kernel
theorem dX4_open_10 : decode cX4_open 10 = .ok (.aload_n 0, 1) := by decide +kernel
theorem dX4_open_11 : decode cX4_open 11 = .ok (.iconst (-1), 1) := by decide +kernel
theorem dX4_open_12 : decode cX4_open 12 = .ok (.invokevirtual 64, 3) := by decide +kernel
theorem dX4_open_15 : decode cX4_open 15 = .ok (.ireturn, 1) := by decide +kernel
theorem dX4_open_16 : decode cX4_open 16 = .ok (.iload_n 2, 1) := by decide +kernel
theorem dX4_open_17 : decode cX4_open 17 = .ok (.iconst 0, 1) := by decide +kernel
theorem dX4_open_18 : decode cX4_open 18 = .ok (.iconst 1, 1) := by decide +kernel
theorem dX4_open_19 : decode cX4_open 19 = .ok (.invokestatic 83, 3) := by decide +kernel
theorem dX4_open_22 : decode cX4_open 22 = .ok (.ifCond .ne 10, 3) := by decide +kernel
theorem dX4_open_25 : decode cX4_open 25 = .ok (.aload_n 0, 1) := by decide +kernel
theorem dX4_open_26 : decode cX4_open 26 = .ok (.bipush (-2), 2) := by decide +kernel
theorem dX4_open_28 : decode cX4_open 28 = .ok (.invokevirtual 64, 3) := by decide +kernel
theorem dX4_open_31 : decode cX4_open 31 = .ok (.ireturn, 1) := by decide +kernel
theorem dX4_open_32 : decode cX4_open 32 = .ok (.aload_n 0, 1) := by decide +kernel
theorem dX4_open_33 : decode cX4_open 33 = .ok (.getfield 12, 3) := by decide +kernel
theorem dX4_open_36 : decode cX4_open 36 = .ok (.getfield 97, 3) := by decide +kernel
theorem dX4_open_39 : decode cX4_open 39 = .ok (.iload_n 1, 1) := by decide +kernel
theorem dX4_open_40 : decode cX4_open 40 = .ok (.iaload, 1) := by decide +kernel
theorem dX4_open_41 : decode cX4_open 41 = .ok (.istore_n 3, 1) := by decide +kernel
theorem dX4_open_42 : decode cX4_open 42 = .ok (.aload_n 0, 1) := by decide +kernel
theorem dX4_open_43 : decode cX4_open 43 = .ok (.getfield 12, 3) := by decide +kernel
theorem dX4_open_46 : decode cX4_open 46 = .ok (.getfield 97, 3) := by decide +kernel
theorem dX4_open_49 : decode cX4_open 49 = .ok (.iload_n 1, 1) := by decide +kernel
theorem dX4_open_50 : decode cX4_open 50 = .ok (.iload_n 2, 1) := by decide +kernel
theorem dX4_open_51 : decode cX4_open 51 = .ok (.iastore, 1) := by decide +kernel
theorem dX4_open_52 : decode cX4_open 52 = .ok (.iload_n 3, 1) := by decide +kernel
theorem dX4_open_53 : decode cX4_open 53 = .ok (.ireturn, 1) := by decide +kernel
theorem dX4_set_0 : decode cX4_set 0 = .ok (.iload_n 1, 1) := by decide +kernel
theorem dX4_set_1 : decode cX4_set 1 = .ok (.iconst 0, 1) := by decide +kernel
theorem dX4_set_2 : decode cX4_set 2 = .ok (.iconst 5, 1) := by decide +kernel
theorem dX4_set_3 : decode cX4_set 3 = .ok (.invokestatic 83, 3) := by decide +kernel
theorem dX4_set_6 : decode cX4_set 6 = .ok (.ifCond .ne 10, 3) := by decide +kernel
theorem dX4_set_9 : decode cX4_set 9 = .ok (.aload_n 0, 1) := by decide +kernel
theorem dX4_set_10 : decode cX4_set 10 = .ok (.bipush (-2), 2) := by decide +kernel
theorem dX4_set_12 : decode cX4_set 12 = .ok (.invokevirtual 64, 3) := by decide +kernel
theorem dX4_set_15 : decode cX4_set 15 = .ok (.ireturn, 1) := by decide +kernel
theorem dX4_set_16 : decode cX4_set 16 = .ok (.iload_n 2, 1) := by decide +kernel
theorem dX4_set_17 : decode cX4_set 17 = .ok (.iconst 0, 1) := by decide +kernel
theorem dX4_set_18 : decode cX4_set 18 = .ok (.getstatic 100, 3) := by decide +kernel
theorem dX4_set_21 : decode cX4_set 21 = .ok (.iload_n 1, 1) := by decide +kernel
theorem dX4_set_22 : decode cX4_set 22 = .ok (.iaload, 1) := by decide +kernel
theorem dX4_set_23 : decode cX4_set 23 = .ok (.invokestatic 56, 3) := by decide +kernel
theorem dX4_set_26 : decode cX4_set 26 = .ok (.istore_n 3, 1) := by decide +kernel
theorem dX4_set_27 : decode cX4_set 27 = .ok (.iload_n 3, 1) := by decide +kernel
theorem dX4_set_28 : decode cX4_set 28 = .ok (.ifCond .eq 9, 3) := by decide +kernel
theorem dX4_set_31 : decode cX4_set 31 = .ok (.aload_n 0, 1) := by decide +kernel
theorem dX4_set_32 : decode cX4_set 32 = .ok (.iload_n 3, 1) := by decide +kernel
theorem dX4_set_33 : decode cX4_set 33 = .ok (.invokevirtual 64, 3) := by decide +kernel
theorem dX4_set_36 : decode cX4_set 36 = .ok (.ireturn, 1) := by decide +kernel
theorem dX4_set_37 : decode cX4_set 37 = .ok (.aload_n 0, 1) := by decide +kernel
theorem dX4_set_38 : decode cX4_set 38 = .ok (.getfield 12, 3) := by decide +kernel
theorem dX4_set_41 : decode cX4_set 41 = .ok (.getfield 103, 3) := by decide +kernel
theorem dX4_set_44 : decode cX4_set 44 = .ok (.iload_n 1, 1) := by decide +kernel
theorem dX4_set_45 : decode cX4_set 45 = .ok (.iaload, 1) := by decide +kernel
theorem dX4_set_46 : decode cX4_set 46 = .ok (.istore 4, 2) := by decide +kernel
theorem dX4_set_48 : decode cX4_set 48 = .ok (.aload_n 0, 1) := by decide +kernel
theorem dX4_set_49 : decode cX4_set 49 = .ok (.getfield 12, 3) := by decide +kernel
theorem dX4_set_52 : decode cX4_set 52 = .ok (.getfield 103, 3) := by decide +kernel
theorem dX4_set_55 : decode cX4_set 55 = .ok (.iload_n 1, 1) := by decide +kernel
theorem dX4_set_56 : decode cX4_set 56 = .ok (.iload_n 2, 1) := by decide +kernel
theorem dX4_set_57 : decode cX4_set 57 = .ok (.iastore, 1) := by decide +kernel
theorem dX4_set_58 : decode cX4_set 58 = .ok (.iload 4, 2) := by decide +kernel
theorem dX4_set_60 : decode cX4_set 60 = .ok (.ireturn, 1) := by decide +kernel
theorem dX4_worth_0 : decode cX4_worth 0 = .ok (.aload_n 0, 1) := by decide +kernel
theorem dX4_worth_1 : decode cX4_worth 1 = .ok (.getfield 12, 3) := by decide +kernel
theorem dX4_worth_4 : decode cX4_worth 4 = .ok (.iload_n 1, 1) := by decide +kernel
theorem dX4_worth_5 : decode cX4_worth 5 = .ok (.invokevirtual 79, 3) := by decide +kernel
theorem dX4_worth_8 : decode cX4_worth 8 = .ok (.ifCond .eq 10, 3) := by decide +kernel
theorem dX4_worth_11 : decode cX4_worth 11 = .ok (.iload_n 2, 1) := by decide +kernel
theorem dX4_worth_12 : decode cX4_worth 12 = .ok (.invokestatic 91, 3) := by decide +kernel
theorem dX4_worth_15 : decode cX4_worth 15 = .ok (.ifCond .ne 9, 3) := by decide +kernel
theorem dX4_worth_18 : decode cX4_worth 18 = .ok (.aload_n 0, 1) := by decide +kernel
theorem dX4_worth_19 : decode cX4_worth 19 = .ok (.iconst (-1), 1) := by decide +kernel
theorem dX4_worth_20 : decode cX4_worth 20 = .ok (.invokevirtual 64, 3) := by decide +kernel
theorem dX4_worth_23 : decode cX4_worth 23 = .ok (.ireturn, 1) := by decide +kernel
theorem dX4_worth_24 : decode cX4_worth 24 = .ok (.aload_n 0, 1) := by decide +kernel
theorem dX4_worth_25 : decode cX4_worth 25 = .ok (.getfield 12, 3) := by decide +kernel
theorem dX4_worth_28 : decode cX4_worth 28 = .ok (.iload_n 1, 1) := by decide +kernel
theorem dX4_worth_29 : decode cX4_worth 29 = .ok (.iload_n 2, 1) := by decide +kernel
theorem dX4_worth_30 : decode cX4_worth 30 = .ok (.invokevirtual 106, 3) := by decide +kernel
theorem dX4_worth_33 : decode cX4_worth 33 = .ok (.istore_n 3, 1) := by decide +kernel
theorem dX4_worth_34 : decode cX4_worth 34 = .ok (.iload_n 3, 1) := by decide +kernel
theorem dX4_worth_35 : decode cX4_worth 35 = .ok (.iconst (-1), 1) := by decide +kernel
theorem dX4_worth_36 : decode cX4_worth 36 = .ok (.if_icmp .ne 8, 3) := by decide +kernel
theorem dX4_worth_39 : decode cX4_worth 39 = .ok (.bipush (-9), 2) := by decide +kernel
theorem dX4_worth_41 : decode cX4_worth 41 = .ok (.goto 4, 3) := by decide +kernel
theorem dX4_worth_44 : decode cX4_worth 44 = .ok (.iload_n 3, 1) := by decide +kernel
theorem dX4_worth_45 : decode cX4_worth 45 = .ok (.ireturn, 1) := by decide +kernel
theorem dX4_dayOn_0 : decode cX4_dayOn 0 = .ok (.aload_n 0, 1) := by decide +kernel
theorem dX4_dayOn_1 : decode cX4_dayOn 1 = .ok (.getfield 12, 3) := by decide +kernel
theorem dX4_dayOn_4 : decode cX4_dayOn 4 = .ok (.getfield 110, 3) := by decide +kernel
theorem dX4_dayOn_7 : decode cX4_dayOn 7 = .ok (.sipush 9999, 3) := by decide +kernel
theorem dX4_dayOn_10 : decode cX4_dayOn 10 = .ok (.if_icmp .lt 13, 3) := by decide +kernel
theorem dX4_dayOn_13 : decode cX4_dayOn 13 = .ok (.ldc 113, 2) := by decide +kernel
theorem dX4_dayOn_15 : decode cX4_dayOn 15 = .ok (.aload_n 0, 1) := by decide +kernel
theorem dX4_dayOn_16 : decode cX4_dayOn 16 = .ok (.bipush (-6), 2) := by decide +kernel
theorem dX4_dayOn_18 : decode cX4_dayOn 18 = .ok (.invokevirtual 64, 3) := by decide +kernel
theorem dX4_dayOn_21 : decode cX4_dayOn 21 = .ok (.isub, 1) := by decide +kernel
theorem dX4_dayOn_22 : decode cX4_dayOn 22 = .ok (.ireturn, 1) := by decide +kernel
theorem dX4_dayOn_23 : decode cX4_dayOn 23 = .ok (.aload_n 0, 1) := by decide +kernel
theorem dX4_dayOn_24 : decode cX4_dayOn 24 = .ok (.getfield 25, 3) := by decide +kernel
theorem dX4_dayOn_27 : decode cX4_dayOn 27 = .ok (.invokevirtual 114, 3) := by decide +kernel
theorem dX4_dayOn_30 : decode cX4_dayOn 30 = .ok (.aload_n 0, 1) := by decide +kernel
theorem dX4_dayOn_31 : decode cX4_dayOn 31 = .ok (.getfield 12, 3) := by decide +kernel
theorem dX4_dayOn_34 : decode cX4_dayOn 34 = .ok (.aload_n 0, 1) := by decide +kernel
theorem dX4_dayOn_35 : decode cX4_dayOn 35 = .ok (.getfield 25, 3) := by decide +kernel
theorem dX4_dayOn_38 : decode cX4_dayOn 38 = .ok (.invokevirtual 117, 3) := by decide +kernel
theorem dX4_dayOn_41 : decode cX4_dayOn 41 = .ok (.aload_n 0, 1) := by decide +kernel
theorem dX4_dayOn_42 : decode cX4_dayOn 42 = .ok (.getfield 25, 3) := by decide +kernel
theorem dX4_dayOn_45 : decode cX4_dayOn 45 = .ok (.getfield 121, 3) := by decide +kernel
theorem dX4_dayOn_48 : decode cX4_dayOn 48 = .ok (.iconst 0, 1) := by decide +kernel
theorem dX4_dayOn_49 : decode cX4_dayOn 49 = .ok (.iaload, 1) := by decide +kernel
theorem dX4_dayOn_50 : decode cX4_dayOn 50 = .ok (.ireturn, 1) := by decide +kernel
theorem dX4_total_0 : decode cX4_total 0 = .ok (.iload_n 1, 1) := by decide +kernel
theorem dX4_total_1 : decode cX4_total 1 = .ok (.iconst 0, 1) := by decide +kernel
theorem dX4_total_2 : decode cX4_total 2 = .ok (.bipush 28, 2) := by decide +kernel
theorem dX4_total_4 : decode cX4_total 4 = .ok (.invokestatic 56, 3) := by decide +kernel
theorem dX4_total_7 : decode cX4_total 7 = .ok (.istore_n 3, 1) := by decide +kernel
theorem dX4_total_8 : decode cX4_total 8 = .ok (.iload_n 3, 1) := by decide +kernel
theorem dX4_total_9 : decode cX4_total 9 = .ok (.ifCond .ne 15, 3) := by decide +kernel
theorem dX4_total_12 : decode cX4_total 12 = .ok (.iload_n 2, 1) := by decide +kernel
theorem dX4_total_13 : decode cX4_total 13 = .ok (.iconst 0, 1) := by decide +kernel
theorem dX4_total_14 : decode cX4_total 14 = .ok (.iconst 5, 1) := by decide +kernel
theorem dX4_total_15 : decode cX4_total 15 = .ok (.invokestatic 83, 3) := by decide +kernel
theorem dX4_total_18 : decode cX4_total 18 = .ok (.ifCond .ne 6, 3) := by decide +kernel
theorem dX4_total_21 : decode cX4_total 21 = .ok (.bipush (-2), 2) := by decide +kernel
theorem dX4_total_23 : decode cX4_total 23 = .ok (.istore_n 3, 1) := by decide +kernel
theorem dX4_total_24 : decode cX4_total 24 = .ok (.iload_n 3, 1) := by decide +kernel
theorem dX4_total_25 : decode cX4_total 25 = .ok (.ifCond .eq 12, 3) := by decide +kernel
theorem dX4_total_28 : decode cX4_total 28 = .ok (.ldc 113, 2) := by decide +kernel
theorem dX4_total_30 : decode cX4_total 30 = .ok (.aload_n 0, 1) := by decide +kernel
theorem dX4_total_31 : decode cX4_total 31 = .ok (.iload_n 3, 1) := by decide +kernel
theorem dX4_total_32 : decode cX4_total 32 = .ok (.invokevirtual 64, 3) := by decide +kernel
theorem dX4_total_35 : decode cX4_total 35 = .ok (.isub, 1) := by decide +kernel
theorem dX4_total_36 : decode cX4_total 36 = .ok (.ireturn, 1) := by decide +kernel
theorem dX4_total_37 : decode cX4_total 37 = .ok (.aload_n 0, 1) := by decide +kernel
theorem dX4_total_38 : decode cX4_total 38 = .ok (.invokevirtual 124, 3) := by decide +kernel
theorem dX4_total_41 : decode cX4_total 41 = .ok (.aload_n 0, 1) := by decide +kernel
theorem dX4_total_42 : decode cX4_total 42 = .ok (.iload_n 1, 1) := by decide +kernel
theorem dX4_total_43 : decode cX4_total 43 = .ok (.invokevirtual 127, 3) := by decide +kernel
theorem dX4_total_46 : decode cX4_total 46 = .ok (.pop, 1) := by decide +kernel
theorem dX4_total_47 : decode cX4_total 47 = .ok (.aload_n 0, 1) := by decide +kernel
theorem dX4_total_48 : decode cX4_total 48 = .ok (.getfield 25, 3) := by decide +kernel
theorem dX4_total_51 : decode cX4_total 51 = .ok (.getfield 121, 3) := by decide +kernel
theorem dX4_total_54 : decode cX4_total 54 = .ok (.iload_n 2, 1) := by decide +kernel
theorem dX4_total_55 : decode cX4_total 55 = .ok (.iaload, 1) := by decide +kernel
theorem dX4_total_56 : decode cX4_total 56 = .ok (.ireturn, 1) := by decide +kernel
theorem dX4_left_0 : decode cX4_left 0 = .ok (.iload_n 1, 1) := by decide +kernel
theorem dX4_left_1 : decode cX4_left 1 = .ok (.iconst 0, 1) := by decide +kernel
theorem dX4_left_2 : decode cX4_left 2 = .ok (.bipush 28, 2) := by decide +kernel
theorem dX4_left_4 : decode cX4_left 4 = .ok (.invokestatic 56, 3) := by decide +kernel
theorem dX4_left_7 : decode cX4_left 7 = .ok (.istore_n 3, 1) := by decide +kernel
theorem dX4_left_8 : decode cX4_left 8 = .ok (.iload_n 3, 1) := by decide +kernel
theorem dX4_left_9 : decode cX4_left 9 = .ok (.ifCond .ne 12, 3) := by decide +kernel
theorem dX4_left_12 : decode cX4_left 12 = .ok (.iload_n 2, 1) := by decide +kernel
theorem dX4_left_13 : decode cX4_left 13 = .ok (.invokestatic 91, 3) := by decide +kernel
theorem dX4_left_16 : decode cX4_left 16 = .ok (.ifCond .ne 5, 3) := by decide +kernel
theorem dX4_left_19 : decode cX4_left 19 = .ok (.iconst (-1), 1) := by decide +kernel
theorem dX4_left_20 : decode cX4_left 20 = .ok (.istore_n 3, 1) := by decide +kernel
theorem dX4_left_21 : decode cX4_left 21 = .ok (.iload_n 3, 1) := by decide +kernel
theorem dX4_left_22 : decode cX4_left 22 = .ok (.ifCond .eq 9, 3) := by decide +kernel
theorem dX4_left_25 : decode cX4_left 25 = .ok (.aload_n 0, 1) := by decide +kernel
theorem dX4_left_26 : decode cX4_left 26 = .ok (.iload_n 3, 1) := by decide +kernel
theorem dX4_left_27 : decode cX4_left 27 = .ok (.invokevirtual 64, 3) := by decide +kernel
theorem dX4_left_30 : decode cX4_left 30 = .ok (.ireturn, 1) := by decide +kernel
theorem dX4_left_31 : decode cX4_left 31 = .ok (.aload_n 0, 1) := by decide +kernel
theorem dX4_left_32 : decode cX4_left 32 = .ok (.invokevirtual 124, 3) := by decide +kernel
theorem dX4_left_35 : decode cX4_left 35 = .ok (.aload_n 0, 1) := by decide +kernel
theorem dX4_left_36 : decode cX4_left 36 = .ok (.iload_n 1, 1) := by decide +kernel
theorem dX4_left_37 : decode cX4_left 37 = .ok (.invokevirtual 127, 3) := by decide +kernel
theorem dX4_left_40 : decode cX4_left 40 = .ok (.pop, 1) := by decide +kernel
theorem dX4_left_41 : decode cX4_left 41 = .ok (.aload_n 0, 1) := by decide +kernel
theorem dX4_left_42 : decode cX4_left 42 = .ok (.getfield 19, 3) := by decide +kernel
theorem dX4_left_45 : decode cX4_left 45 = .ok (.getfield 94, 3) := by decide +kernel
theorem dX4_left_48 : decode cX4_left 48 = .ok (.iload_n 2, 1) := by decide +kernel
theorem dX4_left_49 : decode cX4_left 49 = .ok (.iaload, 1) := by decide +kernel
theorem dX4_left_50 : decode cX4_left 50 = .ok (.ireturn, 1) := by decide +kernel
theorem dX4_never_0 : decode cX4_never 0 = .ok (.aload_n 0, 1) := by decide +kernel
theorem dX4_never_1 : decode cX4_never 1 = .ok (.invokevirtual 124, 3) := by decide +kernel
theorem dX4_never_4 : decode cX4_never 4 = .ok (.iconst 0, 1) := by decide +kernel
theorem dX4_never_5 : decode cX4_never 5 = .ok (.istore_n 1, 1) := by decide +kernel
theorem dX4_never_6 : decode cX4_never 6 = .ok (.iload_n 1, 1) := by decide +kernel
theorem dX4_never_7 : decode cX4_never 7 = .ok (.bipush 28, 2) := by decide +kernel
theorem dX4_never_9 : decode cX4_never 9 = .ok (.if_icmp .ge 29, 3) := by decide +kernel
theorem dX4_never_12 : decode cX4_never 12 = .ok (.aload_n 0, 1) := by decide +kernel
theorem dX4_never_13 : decode cX4_never 13 = .ok (.iconst 1, 1) := by decide +kernel
theorem dX4_never_14 : decode cX4_never 14 = .ok (.invokevirtual 127, 3) := by decide +kernel
theorem dX4_never_17 : decode cX4_never 17 = .ok (.pop, 1) := by decide +kernel
theorem dX4_never_18 : decode cX4_never 18 = .ok (.aload_n 0, 1) := by decide +kernel
theorem dX4_never_19 : decode cX4_never 19 = .ok (.getfield 25, 3) := by decide +kernel
theorem dX4_never_22 : decode cX4_never 22 = .ok (.getfield 121, 3) := by decide +kernel
theorem dX4_never_25 : decode cX4_never 25 = .ok (.iconst 2, 1) := by decide +kernel
theorem dX4_never_26 : decode cX4_never 26 = .ok (.iaload, 1) := by decide +kernel
theorem dX4_never_27 : decode cX4_never 27 = .ok (.ifCond .le 5, 3) := by decide +kernel
theorem dX4_never_30 : decode cX4_never 30 = .ok (.iload_n 1, 1) := by decide +kernel
theorem dX4_never_31 : decode cX4_never 31 = .ok (.ireturn, 1) := by decide +kernel
theorem dX4_never_32 : decode cX4_never 32 = .ok (.iinc 1 1, 3) := by decide +kernel
theorem dX4_never_35 : decode cX4_never 35 = .ok (.goto (-29), 3) := by decide +kernel
theorem dX4_never_38 : decode cX4_never 38 = .ok (.bipush 28, 2) := by decide +kernel
theorem dX4_never_40 : decode cX4_never 40 = .ok (.ireturn, 1) := by decide +kernel
theorem dX4_out_0 : decode cX4_out 0 = .ok (.iload_n 1, 1) := by decide +kernel
theorem dX4_out_1 : decode cX4_out 1 = .ok (.iconst 0, 1) := by decide +kernel
theorem dX4_out_2 : decode cX4_out 2 = .ok (.bipush 28, 2) := by decide +kernel
theorem dX4_out_4 : decode cX4_out 4 = .ok (.invokestatic 56, 3) := by decide +kernel
theorem dX4_out_7 : decode cX4_out 7 = .ok (.istore_n 2, 1) := by decide +kernel
theorem dX4_out_8 : decode cX4_out 8 = .ok (.iload_n 2, 1) := by decide +kernel
theorem dX4_out_9 : decode cX4_out 9 = .ok (.ifCond .eq 9, 3) := by decide +kernel
theorem dX4_out_12 : decode cX4_out 12 = .ok (.aload_n 0, 1) := by decide +kernel
theorem dX4_out_13 : decode cX4_out 13 = .ok (.iload_n 2, 1) := by decide +kernel
theorem dX4_out_14 : decode cX4_out 14 = .ok (.invokevirtual 64, 3) := by decide +kernel
theorem dX4_out_17 : decode cX4_out 17 = .ok (.ireturn, 1) := by decide +kernel
theorem dX4_out_18 : decode cX4_out 18 = .ok (.bipush 20, 2) := by decide +kernel
theorem dX4_out_20 : decode cX4_out 20 = .ok (.aload_n 0, 1) := by decide +kernel
theorem dX4_out_21 : decode cX4_out 21 = .ok (.getfield 12, 3) := by decide +kernel
theorem dX4_out_24 : decode cX4_out 24 = .ok (.invokevirtual 130, 3) := by decide +kernel
theorem dX4_out_27 : decode cX4_out 27 = .ok (.invokestatic 133, 3) := by decide +kernel
theorem dX4_out_30 : decode cX4_out 30 = .ok (.istore_n 3, 1) := by decide +kernel
theorem dX4_out_31 : decode cX4_out 31 = .ok (.aload_n 0, 1) := by decide +kernel
theorem dX4_out_32 : decode cX4_out 32 = .ok (.getfield 32, 3) := by decide +kernel
theorem dX4_out_35 : decode cX4_out 35 = .ok (.invokevirtual 138, 3) := by decide +kernel
theorem dX4_out_38 : decode cX4_out 38 = .ok (.iconst 0, 1) := by decide +kernel
theorem dX4_out_39 : decode cX4_out 39 = .ok (.istore 4, 2) := by decide +kernel
theorem dX4_out_41 : decode cX4_out 41 = .ok (.iload 4, 2) := by decide +kernel
theorem dX4_out_43 : decode cX4_out 43 = .ok (.iload_n 3, 1) := by decide +kernel
theorem dX4_out_44 : decode cX4_out 44 = .ok (.if_icmp .gt 49, 3) := by decide +kernel
theorem dX4_out_47 : decode cX4_out 47 = .ok (.aload_n 0, 1) := by decide +kernel
theorem dX4_out_48 : decode cX4_out 48 = .ok (.invokevirtual 124, 3) := by decide +kernel
theorem dX4_out_51 : decode cX4_out 51 = .ok (.aload_n 0, 1) := by decide +kernel
theorem dX4_out_52 : decode cX4_out 52 = .ok (.getfield 19, 3) := by decide +kernel
theorem dX4_out_55 : decode cX4_out 55 = .ok (.iload 4, 2) := by decide +kernel
theorem dX4_out_57 : decode cX4_out 57 = .ok (.invokevirtual 139, 3) := by decide +kernel
theorem dX4_out_60 : decode cX4_out 60 = .ok (.aload_n 0, 1) := by decide +kernel
theorem dX4_out_61 : decode cX4_out 61 = .ok (.getfield 32, 3) := by decide +kernel
theorem dX4_out_64 : decode cX4_out 64 = .ok (.iload 4, 2) := by decide +kernel
theorem dX4_out_66 : decode cX4_out 66 = .ok (.aload_n 0, 1) := by decide +kernel
theorem dX4_out_67 : decode cX4_out 67 = .ok (.iload_n 1, 1) := by decide +kernel
theorem dX4_out_68 : decode cX4_out 68 = .ok (.invokevirtual 127, 3) := by decide +kernel
theorem dX4_out_71 : decode cX4_out 71 = .ok (.iload 4, 2) := by decide +kernel
theorem dX4_out_73 : decode cX4_out 73 = .ok (.aload_n 0, 1) := by decide +kernel
theorem dX4_out_74 : decode cX4_out 74 = .ok (.getfield 12, 3) := by decide +kernel
theorem dX4_out_77 : decode cX4_out 77 = .ok (.getfield 103, 3) := by decide +kernel
theorem dX4_out_80 : decode cX4_out 80 = .ok (.iconst 3, 1) := by decide +kernel
theorem dX4_out_81 : decode cX4_out 81 = .ok (.iaload, 1) := by decide +kernel
theorem dX4_out_82 : decode cX4_out 82 = .ok (.imul, 1) := by decide +kernel
theorem dX4_out_83 : decode cX4_out 83 = .ok (.isub, 1) := by decide +kernel
theorem dX4_out_84 : decode cX4_out 84 = .ok (.invokevirtual 143, 3) := by decide +kernel
theorem dX4_out_87 : decode cX4_out 87 = .ok (.iinc 4 1, 3) := by decide +kernel
theorem dX4_out_90 : decode cX4_out 90 = .ok (.goto (-49), 3) := by decide +kernel
theorem dX4_out_93 : decode cX4_out 93 = .ok (.aload_n 0, 1) := by decide +kernel
theorem dX4_out_94 : decode cX4_out 94 = .ok (.getfield 32, 3) := by decide +kernel
theorem dX4_out_97 : decode cX4_out 97 = .ok (.getfield 147, 3) := by decide +kernel
theorem dX4_out_100 : decode cX4_out 100 = .ok (.ireturn, 1) := by decide +kernel
theorem dX4_less_0 : decode cX4_less 0 = .ok (.iload_n 1, 1) := by decide +kernel
theorem dX4_less_1 : decode cX4_less 1 = .ok (.iconst 0, 1) := by decide +kernel
theorem dX4_less_2 : decode cX4_less 2 = .ok (.bipush 28, 2) := by decide +kernel
theorem dX4_less_4 : decode cX4_less 4 = .ok (.invokestatic 56, 3) := by decide +kernel
theorem dX4_less_7 : decode cX4_less 7 = .ok (.istore_n 2, 1) := by decide +kernel
theorem dX4_less_8 : decode cX4_less 8 = .ok (.iload_n 2, 1) := by decide +kernel
theorem dX4_less_9 : decode cX4_less 9 = .ok (.ifCond .eq 9, 3) := by decide +kernel
theorem dX4_less_12 : decode cX4_less 12 = .ok (.aload_n 0, 1) := by decide +kernel
theorem dX4_less_13 : decode cX4_less 13 = .ok (.iload_n 2, 1) := by decide +kernel
theorem dX4_less_14 : decode cX4_less 14 = .ok (.invokevirtual 64, 3) := by decide +kernel
theorem dX4_less_17 : decode cX4_less 17 = .ok (.ireturn, 1) := by decide +kernel
theorem dX4_less_18 : decode cX4_less 18 = .ok (.aload_n 0, 1) := by decide +kernel
theorem dX4_less_19 : decode cX4_less 19 = .ok (.getfield 12, 3) := by decide +kernel
theorem dX4_less_22 : decode cX4_less 22 = .ok (.invokevirtual 150, 3) := by decide +kernel
theorem dX4_less_25 : decode cX4_less 25 = .ok (.ifCond .ne 6, 3) := by decide +kernel
theorem dX4_less_28 : decode cX4_less 28 = .ok (.bipush (-9), 2) := by decide +kernel
theorem dX4_less_30 : decode cX4_less 30 = .ok (.ireturn, 1) := by decide +kernel
theorem dX4_less_31 : decode cX4_less 31 = .ok (.aload_n 0, 1) := by decide +kernel
theorem dX4_less_32 : decode cX4_less 32 = .ok (.getfield 32, 3) := by decide +kernel
theorem dX4_less_35 : decode cX4_less 35 = .ok (.invokevirtual 138, 3) := by decide +kernel
theorem dX4_less_38 : decode cX4_less 38 = .ok (.iconst 0, 1) := by decide +kernel
theorem dX4_less_39 : decode cX4_less 39 = .ok (.istore_n 3, 1) := by decide +kernel
theorem dX4_less_40 : decode cX4_less 40 = .ok (.iload_n 3, 1) := by decide +kernel
theorem dX4_less_41 : decode cX4_less 41 = .ok (.aload_n 0, 1) := by decide +kernel
theorem dX4_less_42 : decode cX4_less 42 = .ok (.getfield 12, 3) := by decide +kernel
theorem dX4_less_45 : decode cX4_less 45 = .ok (.getfield 103, 3) := by decide +kernel
theorem dX4_less_48 : decode cX4_less 48 = .ok (.iconst 0, 1) := by decide +kernel
theorem dX4_less_49 : decode cX4_less 49 = .ok (.iaload, 1) := by decide +kernel
theorem dX4_less_50 : decode cX4_less 50 = .ok (.if_icmp .gt 34, 3) := by decide +kernel
theorem dX4_less_53 : decode cX4_less 53 = .ok (.aload_n 0, 1) := by decide +kernel
theorem dX4_less_54 : decode cX4_less 54 = .ok (.invokevirtual 124, 3) := by decide +kernel
theorem dX4_less_57 : decode cX4_less 57 = .ok (.aload_n 0, 1) := by decide +kernel
theorem dX4_less_58 : decode cX4_less 58 = .ok (.getfield 19, 3) := by decide +kernel
theorem dX4_less_61 : decode cX4_less 61 = .ok (.iload_n 3, 1) := by decide +kernel
theorem dX4_less_62 : decode cX4_less 62 = .ok (.putfield 153, 3) := by decide +kernel
theorem dX4_less_65 : decode cX4_less 65 = .ok (.aload_n 0, 1) := by decide +kernel
theorem dX4_less_66 : decode cX4_less 66 = .ok (.getfield 32, 3) := by decide +kernel
theorem dX4_less_69 : decode cX4_less 69 = .ok (.iload_n 3, 1) := by decide +kernel
theorem dX4_less_70 : decode cX4_less 70 = .ok (.aload_n 0, 1) := by decide +kernel
theorem dX4_less_71 : decode cX4_less 71 = .ok (.iload_n 1, 1) := by decide +kernel
theorem dX4_less_72 : decode cX4_less 72 = .ok (.invokevirtual 127, 3) := by decide +kernel
theorem dX4_less_75 : decode cX4_less 75 = .ok (.invokevirtual 143, 3) := by decide +kernel
theorem dX4_less_78 : decode cX4_less 78 = .ok (.iinc 3 1, 3) := by decide +kernel
theorem dX4_less_81 : decode cX4_less 81 = .ok (.goto (-41), 3) := by decide +kernel
theorem dX4_less_84 : decode cX4_less 84 = .ok (.aload_n 0, 1) := by decide +kernel
theorem dX4_less_85 : decode cX4_less 85 = .ok (.getfield 32, 3) := by decide +kernel
theorem dX4_less_88 : decode cX4_less 88 = .ok (.getfield 147, 3) := by decide +kernel
theorem dX4_less_91 : decode cX4_less 91 = .ok (.ireturn, 1) := by decide +kernel
theorem dX4_best_0 : decode cX4_best 0 = .ok (.iload_n 1, 1) := by decide +kernel
theorem dX4_best_1 : decode cX4_best 1 = .ok (.iconst 0, 1) := by decide +kernel
theorem dX4_best_2 : decode cX4_best 2 = .ok (.bipush 28, 2) := by decide +kernel
theorem dX4_best_4 : decode cX4_best 4 = .ok (.invokestatic 56, 3) := by decide +kernel
theorem dX4_best_7 : decode cX4_best 7 = .ok (.istore_n 2, 1) := by decide +kernel
theorem dX4_best_8 : decode cX4_best 8 = .ok (.iload_n 2, 1) := by decide +kernel
theorem dX4_best_9 : decode cX4_best 9 = .ok (.ifCond .eq 11, 3) := by decide +kernel
theorem dX4_best_12 : decode cX4_best 12 = .ok (.aload_n 0, 1) := by decide +kernel
theorem dX4_best_13 : decode cX4_best 13 = .ok (.iload_n 2, 1) := by decide +kernel
theorem dX4_best_14 : decode cX4_best 14 = .ok (.invokevirtual 64, 3) := by decide +kernel
theorem dX4_best_17 : decode cX4_best 17 = .ok (.goto 9, 3) := by decide +kernel
theorem dX4_best_20 : decode cX4_best 20 = .ok (.aload_n 0, 1) := by decide +kernel
theorem dX4_best_21 : decode cX4_best 21 = .ok (.iconst 5, 1) := by decide +kernel
theorem dX4_best_22 : decode cX4_best 22 = .ok (.iload_n 1, 1) := by decide +kernel
theorem dX4_best_23 : decode cX4_best 23 = .ok (.invokevirtual 156, 3) := by decide +kernel
theorem dX4_best_26 : decode cX4_best 26 = .ok (.ireturn, 1) := by decide +kernel
theorem dX4_buying_0 : decode cX4_buying 0 = .ok (.iload_n 1, 1) := by decide +kernel
theorem dX4_buying_1 : decode cX4_buying 1 = .ok (.iconst 0, 1) := by decide +kernel
theorem dX4_buying_2 : decode cX4_buying 2 = .ok (.bipush 28, 2) := by decide +kernel
theorem dX4_buying_4 : decode cX4_buying 4 = .ok (.invokestatic 56, 3) := by decide +kernel
theorem dX4_buying_7 : decode cX4_buying 7 = .ok (.istore_n 2, 1) := by decide +kernel
theorem dX4_buying_8 : decode cX4_buying 8 = .ok (.iload_n 2, 1) := by decide +kernel
theorem dX4_buying_9 : decode cX4_buying 9 = .ok (.ifCond .eq 11, 3) := by decide +kernel
theorem dX4_buying_12 : decode cX4_buying 12 = .ok (.aload_n 0, 1) := by decide +kernel
theorem dX4_buying_13 : decode cX4_buying 13 = .ok (.iload_n 2, 1) := by decide +kernel
theorem dX4_buying_14 : decode cX4_buying 14 = .ok (.invokevirtual 64, 3) := by decide +kernel
theorem dX4_buying_17 : decode cX4_buying 17 = .ok (.goto 9, 3) := by decide +kernel
theorem dX4_buying_20 : decode cX4_buying 20 = .ok (.aload_n 0, 1) := by decide +kernel
theorem dX4_buying_21 : decode cX4_buying 21 = .ok (.iconst 0, 1) := by decide +kernel
theorem dX4_buying_22 : decode cX4_buying 22 = .ok (.iload_n 1, 1) := by decide +kernel
theorem dX4_buying_23 : decode cX4_buying 23 = .ok (.invokevirtual 156, 3) := by decide +kernel
theorem dX4_buying_26 : decode cX4_buying 26 = .ok (.ireturn, 1) := by decide +kernel
theorem dX4_close_0 : decode cX4_close 0 = .ok (.aload_n 0, 1) := by decide +kernel
theorem dX4_close_1 : decode cX4_close 1 = .ok (.getfield 32, 3) := by decide +kernel
theorem dX4_close_4 : decode cX4_close 4 = .ok (.invokevirtual 138, 3) := by decide +kernel
theorem dX4_close_7 : decode cX4_close 7 = .ok (.iconst 0, 1) := by decide +kernel
theorem dX4_close_8 : decode cX4_close 8 = .ok (.istore_n 1, 1) := by decide +kernel
theorem dX4_close_9 : decode cX4_close 9 = .ok (.iload_n 1, 1) := by decide +kernel
theorem dX4_close_10 : decode cX4_close 10 = .ok (.bipush 7, 2) := by decide +kernel
theorem dX4_close_12 : decode cX4_close 12 = .ok (.if_icmp .ge 50, 3) := by decide +kernel
theorem dX4_close_15 : decode cX4_close 15 = .ok (.aload_n 0, 1) := by decide +kernel
theorem dX4_close_16 : decode cX4_close 16 = .ok (.getfield 12, 3) := by decide +kernel
theorem dX4_close_19 : decode cX4_close 19 = .ok (.getfield 97, 3) := by decide +kernel
theorem dX4_close_22 : decode cX4_close 22 = .ok (.iload_n 1, 1) := by decide +kernel
theorem dX4_close_23 : decode cX4_close 23 = .ok (.iaload, 1) := by decide +kernel
theorem dX4_close_24 : decode cX4_close 24 = .ok (.iconst 1, 1) := by decide +kernel
theorem dX4_close_25 : decode cX4_close 25 = .ok (.if_icmp .ne 31, 3) := by decide +kernel
theorem dX4_close_28 : decode cX4_close 28 = .ok (.aload_n 0, 1) := by decide +kernel
theorem dX4_close_29 : decode cX4_close 29 = .ok (.invokevirtual 124, 3) := by decide +kernel
theorem dX4_close_32 : decode cX4_close 32 = .ok (.aload_n 0, 1) := by decide +kernel
theorem dX4_close_33 : decode cX4_close 33 = .ok (.getfield 19, 3) := by decide +kernel
theorem dX4_close_36 : decode cX4_close 36 = .ok (.getfield 97, 3) := by decide +kernel
theorem dX4_close_39 : decode cX4_close 39 = .ok (.iload_n 1, 1) := by decide +kernel
theorem dX4_close_40 : decode cX4_close 40 = .ok (.iconst 0, 1) := by decide +kernel
theorem dX4_close_41 : decode cX4_close 41 = .ok (.iastore, 1) := by decide +kernel
theorem dX4_close_42 : decode cX4_close 42 = .ok (.aload_n 0, 1) := by decide +kernel
theorem dX4_close_43 : decode cX4_close 43 = .ok (.getfield 32, 3) := by decide +kernel
theorem dX4_close_46 : decode cX4_close 46 = .ok (.iload_n 1, 1) := by decide +kernel
theorem dX4_close_47 : decode cX4_close 47 = .ok (.aload_n 0, 1) := by decide +kernel
theorem dX4_close_48 : decode cX4_close 48 = .ok (.bipush 14, 2) := by decide +kernel
theorem dX4_close_50 : decode cX4_close 50 = .ok (.invokevirtual 127, 3) := by decide +kernel
theorem dX4_close_53 : decode cX4_close 53 = .ok (.invokevirtual 143, 3) := by decide +kernel
theorem dX4_close_56 : decode cX4_close 56 = .ok (.iinc 1 1, 3) := by decide +kernel
theorem dX4_close_59 : decode cX4_close 59 = .ok (.goto (-50), 3) := by decide +kernel
theorem dX4_close_62 : decode cX4_close 62 = .ok (.aload_n 0, 1) := by decide +kernel
theorem dX4_close_63 : decode cX4_close 63 = .ok (.getfield 32, 3) := by decide +kernel
theorem dX4_close_66 : decode cX4_close 66 = .ok (.getfield 147, 3) := by decide +kernel
theorem dX4_close_69 : decode cX4_close 69 = .ok (.ireturn, 1) := by decide +kernel
theorem dX4_half_0 : decode cX4_half 0 = .ok (.iload_n 1, 1) := by decide +kernel
theorem dX4_half_1 : decode cX4_half 1 = .ok (.iconst 0, 1) := by decide +kernel
theorem dX4_half_2 : decode cX4_half 2 = .ok (.bipush 28, 2) := by decide +kernel
theorem dX4_half_4 : decode cX4_half 4 = .ok (.invokestatic 56, 3) := by decide +kernel
theorem dX4_half_7 : decode cX4_half 7 = .ok (.istore_n 2, 1) := by decide +kernel
theorem dX4_half_8 : decode cX4_half 8 = .ok (.iload_n 2, 1) := by decide +kernel
theorem dX4_half_9 : decode cX4_half 9 = .ok (.ifCond .eq 11, 3) := by decide +kernel
theorem dX4_half_12 : decode cX4_half 12 = .ok (.aload_n 0, 1) := by decide +kernel
theorem dX4_half_13 : decode cX4_half 13 = .ok (.iload_n 2, 1) := by decide +kernel
theorem dX4_half_14 : decode cX4_half 14 = .ok (.invokevirtual 64, 3) := by decide +kernel
theorem dX4_half_17 : decode cX4_half 17 = .ok (.goto 9, 3) := by decide +kernel
theorem dX4_half_20 : decode cX4_half 20 = .ok (.aload_n 0, 1) := by decide +kernel
theorem dX4_half_21 : decode cX4_half 21 = .ok (.iconst 1, 1) := by decide +kernel
theorem dX4_half_22 : decode cX4_half 22 = .ok (.iload_n 1, 1) := by decide +kernel
theorem dX4_half_23 : decode cX4_half 23 = .ok (.invokevirtual 156, 3) := by decide +kernel
theorem dX4_half_26 : decode cX4_half 26 = .ok (.ireturn, 1) := by decide +kernel
theorem dX4_pays_0 : decode cX4_pays 0 = .ok (.iload_n 1, 1) := by decide +kernel
theorem dX4_pays_1 : decode cX4_pays 1 = .ok (.iconst 0, 1) := by decide +kernel
theorem dX4_pays_2 : decode cX4_pays 2 = .ok (.bipush 28, 2) := by decide +kernel
theorem dX4_pays_4 : decode cX4_pays 4 = .ok (.invokestatic 56, 3) := by decide +kernel
theorem dX4_pays_7 : decode cX4_pays 7 = .ok (.istore_n 2, 1) := by decide +kernel
theorem dX4_pays_8 : decode cX4_pays 8 = .ok (.iload_n 2, 1) := by decide +kernel
theorem dX4_pays_9 : decode cX4_pays 9 = .ok (.ifCond .eq 12, 3) := by decide +kernel
theorem dX4_pays_12 : decode cX4_pays 12 = .ok (.ldc 113, 2) := by decide +kernel
theorem dX4_pays_14 : decode cX4_pays 14 = .ok (.aload_n 0, 1) := by decide +kernel
theorem dX4_pays_15 : decode cX4_pays 15 = .ok (.iload_n 2, 1) := by decide +kernel
theorem dX4_pays_16 : decode cX4_pays 16 = .ok (.invokevirtual 64, 3) := by decide +kernel
theorem dX4_pays_19 : decode cX4_pays 19 = .ok (.isub, 1) := by decide +kernel
theorem dX4_pays_20 : decode cX4_pays 20 = .ok (.ireturn, 1) := by decide +kernel
theorem dX4_pays_21 : decode cX4_pays 21 = .ok (.aload_n 0, 1) := by decide +kernel
theorem dX4_pays_22 : decode cX4_pays 22 = .ok (.iconst 1, 1) := by decide +kernel
theorem dX4_pays_23 : decode cX4_pays 23 = .ok (.iload_n 1, 1) := by decide +kernel
theorem dX4_pays_24 : decode cX4_pays 24 = .ok (.invokevirtual 156, 3) := by decide +kernel
theorem dX4_pays_27 : decode cX4_pays 27 = .ok (.pop, 1) := by decide +kernel
theorem dX4_pays_28 : decode cX4_pays 28 = .ok (.aload_n 0, 1) := by decide +kernel
theorem dX4_pays_29 : decode cX4_pays 29 = .ok (.invokevirtual 124, 3) := by decide +kernel
theorem dX4_pays_32 : decode cX4_pays 32 = .ok (.aload_n 0, 1) := by decide +kernel
theorem dX4_pays_33 : decode cX4_pays 33 = .ok (.getfield 19, 3) := by decide +kernel
theorem dX4_pays_36 : decode cX4_pays 36 = .ok (.getfield 103, 3) := by decide +kernel
theorem dX4_pays_39 : decode cX4_pays 39 = .ok (.iconst 1, 1) := by decide +kernel
theorem dX4_pays_40 : decode cX4_pays 40 = .ok (.iconst 0, 1) := by decide +kernel
theorem dX4_pays_41 : decode cX4_pays 41 = .ok (.iastore, 1) := by decide +kernel
theorem dX4_pays_42 : decode cX4_pays 42 = .ok (.aload_n 0, 1) := by decide +kernel
theorem dX4_pays_43 : decode cX4_pays 43 = .ok (.getfield 32, 3) := by decide +kernel
theorem dX4_pays_46 : decode cX4_pays 46 = .ok (.getfield 159, 3) := by decide +kernel
theorem dX4_pays_49 : decode cX4_pays 49 = .ok (.aload_n 0, 1) := by decide +kernel
theorem dX4_pays_50 : decode cX4_pays 50 = .ok (.iload_n 1, 1) := by decide +kernel
theorem dX4_pays_51 : decode cX4_pays 51 = .ok (.invokevirtual 127, 3) := by decide +kernel
theorem dX4_pays_54 : decode cX4_pays 54 = .ok (.isub, 1) := by decide +kernel
theorem dX4_pays_55 : decode cX4_pays 55 = .ok (.ireturn, 1) := by decide +kernel
theorem dX4_mean_0 : decode cX4_mean 0 = .ok (.iload_n 1, 1) := by decide +kernel
theorem dX4_mean_1 : decode cX4_mean 1 = .ok (.iconst 0, 1) := by decide +kernel
theorem dX4_mean_2 : decode cX4_mean 2 = .ok (.iconst 1, 1) := by decide +kernel
theorem dX4_mean_3 : decode cX4_mean 3 = .ok (.invokestatic 83, 3) := by decide +kernel
theorem dX4_mean_6 : decode cX4_mean 6 = .ok (.ifCond .ne 15, 3) := by decide +kernel
theorem dX4_mean_9 : decode cX4_mean 9 = .ok (.ldc2_w 162, 3) := by decide +kernel
theorem dX4_mean_12 : decode cX4_mean 12 = .ok (.aload_n 0, 1) := by decide +kernel
theorem dX4_mean_13 : decode cX4_mean 13 = .ok (.bipush (-2), 2) := by decide +kernel
theorem dX4_mean_15 : decode cX4_mean 15 = .ok (.invokevirtual 64, 3) := by decide +kernel
theorem dX4_mean_18 : decode cX4_mean 18 = .ok (.i2l, 1) := by decide +kernel
theorem dX4_mean_19 : decode cX4_mean 19 = .ok (.lsub, 1) := by decide +kernel
theorem dX4_mean_20 : decode cX4_mean 20 = .ok (.lreturn, 1) := by decide +kernel
theorem dX4_mean_21 : decode cX4_mean 21 = .ok (.lconst 1, 1) := by decide +kernel
theorem dX4_mean_22 : decode cX4_mean 22 = .ok (.lstore_n 2, 1) := by decide +kernel
theorem dX4_mean_23 : decode cX4_mean 23 = .ok (.iconst 0, 1) := by decide +kernel
theorem dX4_mean_24 : decode cX4_mean 24 = .ok (.istore 4, 2) := by decide +kernel
theorem dX4_mean_26 : decode cX4_mean 26 = .ok (.iload 4, 2) := by decide +kernel
theorem dX4_mean_28 : decode cX4_mean 28 = .ok (.aload_n 0, 1) := by decide +kernel
theorem dX4_mean_29 : decode cX4_mean 29 = .ok (.getfield 12, 3) := by decide +kernel
theorem dX4_mean_32 : decode cX4_mean 32 = .ok (.getfield 164, 3) := by decide +kernel
theorem dX4_mean_35 : decode cX4_mean 35 = .ok (.if_icmp .ge 15, 3) := by decide +kernel
theorem dX4_mean_38 : decode cX4_mean 38 = .ok (.lload_n 2, 1) := by decide +kernel
theorem dX4_mean_39 : decode cX4_mean 39 = .ok (.ldc2_w 167, 3) := by decide +kernel
theorem dX4_mean_42 : decode cX4_mean 42 = .ok (.lmul, 1) := by decide +kernel
theorem dX4_mean_43 : decode cX4_mean 43 = .ok (.lstore_n 2, 1) := by decide +kernel
theorem dX4_mean_44 : decode cX4_mean 44 = .ok (.iinc 4 1, 3) := by decide +kernel
theorem dX4_mean_47 : decode cX4_mean 47 = .ok (.goto (-21), 3) := by decide +kernel
theorem dX4_mean_50 : decode cX4_mean 50 = .ok (.lconst 0, 1) := by decide +kernel
theorem dX4_mean_51 : decode cX4_mean 51 = .ok (.lstore 4, 2) := by decide +kernel
theorem dX4_mean_53 : decode cX4_mean 53 = .ok (.iconst 0, 1) := by decide +kernel
theorem dX4_mean_54 : decode cX4_mean 54 = .ok (.istore 6, 2) := by decide +kernel
theorem dX4_mean_56 : decode cX4_mean 56 = .ok (.iload 6, 2) := by decide +kernel
theorem dX4_mean_58 : decode cX4_mean 58 = .ok (.iconst 1, 1) := by decide +kernel
theorem dX4_mean_59 : decode cX4_mean 59 = .ok (.aload_n 0, 1) := by decide +kernel
theorem dX4_mean_60 : decode cX4_mean 60 = .ok (.getfield 12, 3) := by decide +kernel
theorem dX4_mean_63 : decode cX4_mean 63 = .ok (.getfield 164, 3) := by decide +kernel
theorem dX4_mean_66 : decode cX4_mean 66 = .ok (.ishl, 1) := by decide +kernel
theorem dX4_mean_67 : decode cX4_mean 67 = .ok (.if_icmp .ge 28, 3) := by decide +kernel
theorem dX4_mean_70 : decode cX4_mean 70 = .ok (.lload 4, 2) := by decide +kernel
theorem dX4_mean_72 : decode cX4_mean 72 = .ok (.aload_n 0, 1) := by decide +kernel
theorem dX4_mean_73 : decode cX4_mean 73 = .ok (.iload 6, 2) := by decide +kernel
theorem dX4_mean_75 : decode cX4_mean 75 = .ok (.invokevirtual 169, 3) := by decide +kernel
theorem dX4_mean_78 : decode cX4_mean 78 = .ok (.aload_n 0, 1) := by decide +kernel
theorem dX4_mean_79 : decode cX4_mean 79 = .ok (.iload 6, 2) := by decide +kernel
theorem dX4_mean_81 : decode cX4_mean 81 = .ok (.invokevirtual 173, 3) := by decide +kernel
theorem dX4_mean_84 : decode cX4_mean 84 = .ok (.i2l, 1) := by decide +kernel
theorem dX4_mean_85 : decode cX4_mean 85 = .ok (.lmul, 1) := by decide +kernel
theorem dX4_mean_86 : decode cX4_mean 86 = .ok (.ladd, 1) := by decide +kernel
theorem dX4_mean_87 : decode cX4_mean 87 = .ok (.lstore 4, 2) := by decide +kernel
theorem dX4_mean_89 : decode cX4_mean 89 = .ok (.iinc 6 1, 3) := by decide +kernel
theorem dX4_mean_92 : decode cX4_mean 92 = .ok (.goto (-36), 3) := by decide +kernel
theorem dX4_mean_95 : decode cX4_mean 95 = .ok (.lload_n 2, 1) := by decide +kernel
theorem dX4_mean_96 : decode cX4_mean 96 = .ok (.lload 4, 2) := by decide +kernel
theorem dX4_mean_98 : decode cX4_mean 98 = .ok (.invokestatic 176, 3) := by decide +kernel
theorem dX4_mean_101 : decode cX4_mean 101 = .ok (.invokestatic 180, 3) := by decide +kernel
theorem dX4_mean_104 : decode cX4_mean 104 = .ok (.lstore 6, 2) := by decide +kernel
theorem dX4_mean_106 : decode cX4_mean 106 = .ok (.iload_n 1, 1) := by decide +kernel
theorem dX4_mean_107 : decode cX4_mean 107 = .ok (.ifCond .ne 8, 3) := by decide +kernel
theorem dX4_mean_110 : decode cX4_mean 110 = .ok (.lload 4, 2) := by decide +kernel
theorem dX4_mean_112 : decode cX4_mean 112 = .ok (.goto 4, 3) := by decide +kernel
theorem dX4_mean_115 : decode cX4_mean 115 = .ok (.lload_n 2, 1) := by decide +kernel
theorem dX4_mean_116 : decode cX4_mean 116 = .ok (.lload 6, 2) := by decide +kernel
theorem dX4_mean_118 : decode cX4_mean 118 = .ok (.ldiv, 1) := by decide +kernel
theorem dX4_mean_119 : decode cX4_mean 119 = .ok (.lreturn, 1) := by decide +kernel
theorem dX4_likes_0 : decode cX4_likes 0 = .ok (.aload_n 0, 1) := by decide +kernel
theorem dX4_likes_1 : decode cX4_likes 1 = .ok (.getfield 12, 3) := by decide +kernel
theorem dX4_likes_4 : decode cX4_likes 4 = .ok (.iload_n 1, 1) := by decide +kernel
theorem dX4_likes_5 : decode cX4_likes 5 = .ok (.invokevirtual 79, 3) := by decide +kernel
theorem dX4_likes_8 : decode cX4_likes 8 = .ok (.ifCond .ne 9, 3) := by decide +kernel
theorem dX4_likes_11 : decode cX4_likes 11 = .ok (.aload_n 0, 1) := by decide +kernel
theorem dX4_likes_12 : decode cX4_likes 12 = .ok (.iconst (-1), 1) := by decide +kernel
theorem dX4_likes_13 : decode cX4_likes 13 = .ok (.invokevirtual 64, 3) := by decide +kernel
theorem dX4_likes_16 : decode cX4_likes 16 = .ok (.ireturn, 1) := by decide +kernel
theorem dX4_likes_17 : decode cX4_likes 17 = .ok (.aload_n 0, 1) := by decide +kernel
theorem dX4_likes_18 : decode cX4_likes 18 = .ok (.getfield 32, 3) := by decide +kernel
theorem dX4_likes_21 : decode cX4_likes 21 = .ok (.invokevirtual 138, 3) := by decide +kernel
theorem dX4_likes_24 : decode cX4_likes 24 = .ok (.iconst 0, 1) := by decide +kernel
theorem dX4_likes_25 : decode cX4_likes 25 = .ok (.istore_n 2, 1) := by decide +kernel
theorem dX4_likes_26 : decode cX4_likes 26 = .ok (.iload_n 2, 1) := by decide +kernel
theorem dX4_likes_27 : decode cX4_likes 27 = .ok (.iconst 5, 1) := by decide +kernel
theorem dX4_likes_28 : decode cX4_likes 28 = .ok (.if_icmp .ge 33, 3) := by decide +kernel
theorem dX4_likes_31 : decode cX4_likes 31 = .ok (.aload_n 0, 1) := by decide +kernel
theorem dX4_likes_32 : decode cX4_likes 32 = .ok (.getfield 12, 3) := by decide +kernel
theorem dX4_likes_35 : decode cX4_likes 35 = .ok (.iload_n 1, 1) := by decide +kernel
theorem dX4_likes_36 : decode cX4_likes 36 = .ok (.iload_n 2, 1) := by decide +kernel
theorem dX4_likes_37 : decode cX4_likes 37 = .ok (.invokevirtual 106, 3) := by decide +kernel
theorem dX4_likes_40 : decode cX4_likes 40 = .ok (.istore_n 3, 1) := by decide +kernel
theorem dX4_likes_41 : decode cX4_likes 41 = .ok (.iload_n 3, 1) := by decide +kernel
theorem dX4_likes_42 : decode cX4_likes 42 = .ok (.iconst (-1), 1) := by decide +kernel
theorem dX4_likes_43 : decode cX4_likes 43 = .ok (.if_icmp .eq 12, 3) := by decide +kernel
theorem dX4_likes_46 : decode cX4_likes 46 = .ok (.aload_n 0, 1) := by decide +kernel
theorem dX4_likes_47 : decode cX4_likes 47 = .ok (.getfield 32, 3) := by decide +kernel
theorem dX4_likes_50 : decode cX4_likes 50 = .ok (.iload_n 2, 1) := by decide +kernel
theorem dX4_likes_51 : decode cX4_likes 51 = .ok (.iload_n 3, 1) := by decide +kernel
theorem dX4_likes_52 : decode cX4_likes 52 = .ok (.invokevirtual 143, 3) := by decide +kernel
theorem dX4_likes_55 : decode cX4_likes 55 = .ok (.iinc 2 1, 3) := by decide +kernel
theorem dX4_likes_58 : decode cX4_likes 58 = .ok (.goto (-32), 3) := by decide +kernel
theorem dX4_likes_61 : decode cX4_likes 61 = .ok (.aload_n 0, 1) := by decide +kernel
theorem dX4_likes_62 : decode cX4_likes 62 = .ok (.getfield 32, 3) := by decide +kernel
theorem dX4_likes_65 : decode cX4_likes 65 = .ok (.getfield 147, 3) := by decide +kernel
theorem dX4_likes_68 : decode cX4_likes 68 = .ok (.ireturn, 1) := by decide +kernel
theorem dX4_whose_0 : decode cX4_whose 0 = .ok (.iload_n 1, 1) := by decide +kernel
theorem dX4_whose_1 : decode cX4_whose 1 = .ok (.invokestatic 91, 3) := by decide +kernel
theorem dX4_whose_4 : decode cX4_whose 4 = .ok (.ifCond .ne 9, 3) := by decide +kernel
theorem dX4_whose_7 : decode cX4_whose 7 = .ok (.aload_n 0, 1) := by decide +kernel
theorem dX4_whose_8 : decode cX4_whose 8 = .ok (.iconst (-1), 1) := by decide +kernel
theorem dX4_whose_9 : decode cX4_whose 9 = .ok (.invokevirtual 64, 3) := by decide +kernel
theorem dX4_whose_12 : decode cX4_whose 12 = .ok (.ireturn, 1) := by decide +kernel
theorem dX4_whose_13 : decode cX4_whose 13 = .ok (.aload_n 0, 1) := by decide +kernel
theorem dX4_whose_14 : decode cX4_whose 14 = .ok (.getfield 32, 3) := by decide +kernel
theorem dX4_whose_17 : decode cX4_whose 17 = .ok (.invokevirtual 138, 3) := by decide +kernel
theorem dX4_whose_20 : decode cX4_whose 20 = .ok (.iconst 0, 1) := by decide +kernel
theorem dX4_whose_21 : decode cX4_whose 21 = .ok (.istore_n 2, 1) := by decide +kernel
theorem dX4_whose_22 : decode cX4_whose 22 = .ok (.iload_n 2, 1) := by decide +kernel
theorem dX4_whose_23 : decode cX4_whose 23 = .ok (.aload_n 0, 1) := by decide +kernel
theorem dX4_whose_24 : decode cX4_whose 24 = .ok (.getfield 12, 3) := by decide +kernel
theorem dX4_whose_27 : decode cX4_whose 27 = .ok (.getfield 164, 3) := by decide +kernel
theorem dX4_whose_30 : decode cX4_whose 30 = .ok (.if_icmp .ge 33, 3) := by decide +kernel
theorem dX4_whose_33 : decode cX4_whose 33 = .ok (.aload_n 0, 1) := by decide +kernel
theorem dX4_whose_34 : decode cX4_whose 34 = .ok (.getfield 12, 3) := by decide +kernel
theorem dX4_whose_37 : decode cX4_whose 37 = .ok (.iload_n 2, 1) := by decide +kernel
theorem dX4_whose_38 : decode cX4_whose 38 = .ok (.iload_n 1, 1) := by decide +kernel
theorem dX4_whose_39 : decode cX4_whose 39 = .ok (.invokevirtual 106, 3) := by decide +kernel
theorem dX4_whose_42 : decode cX4_whose 42 = .ok (.istore_n 3, 1) := by decide +kernel
theorem dX4_whose_43 : decode cX4_whose 43 = .ok (.iload_n 3, 1) := by decide +kernel
theorem dX4_whose_44 : decode cX4_whose 44 = .ok (.iconst (-1), 1) := by decide +kernel
theorem dX4_whose_45 : decode cX4_whose 45 = .ok (.if_icmp .eq 12, 3) := by decide +kernel
theorem dX4_whose_48 : decode cX4_whose 48 = .ok (.aload_n 0, 1) := by decide +kernel
theorem dX4_whose_49 : decode cX4_whose 49 = .ok (.getfield 32, 3) := by decide +kernel
theorem dX4_whose_52 : decode cX4_whose 52 = .ok (.iload_n 2, 1) := by decide +kernel
theorem dX4_whose_53 : decode cX4_whose 53 = .ok (.iload_n 3, 1) := by decide +kernel
theorem dX4_whose_54 : decode cX4_whose 54 = .ok (.invokevirtual 143, 3) := by decide +kernel
theorem dX4_whose_57 : decode cX4_whose 57 = .ok (.iinc 2 1, 3) := by decide +kernel
theorem dX4_whose_60 : decode cX4_whose 60 = .ok (.goto (-38), 3) := by decide +kernel
theorem dX4_whose_63 : decode cX4_whose 63 = .ok (.aload_n 0, 1) := by decide +kernel
theorem dX4_whose_64 : decode cX4_whose 64 = .ok (.getfield 32, 3) := by decide +kernel
theorem dX4_whose_67 : decode cX4_whose 67 = .ok (.getfield 147, 3) := by decide +kernel
theorem dX4_whose_70 : decode cX4_whose 70 = .ok (.ireturn, 1) := by decide +kernel
theorem dX4_share_0 : decode cX4_share 0 = .ok (.aload_n 0, 1) := by decide +kernel
theorem dX4_share_1 : decode cX4_share 1 = .ok (.getfield 50, 3) := by decide +kernel
theorem dX4_share_4 : decode cX4_share 4 = .ok (.iconst (-1), 1) := by decide +kernel
theorem dX4_share_5 : decode cX4_share 5 = .ok (.invokestatic 184, 3) := by decide +kernel
theorem dX4_share_8 : decode cX4_share 8 = .ok (.aload_n 0, 1) := by decide +kernel
theorem dX4_share_9 : decode cX4_share 9 = .ok (.getfield 50, 3) := by decide +kernel
theorem dX4_share_12 : decode cX4_share 12 = .ok (.iconst 0, 1) := by decide +kernel
theorem dX4_share_13 : decode cX4_share 13 = .ok (.iconst 0, 1) := by decide +kernel
theorem dX4_share_14 : decode cX4_share 14 = .ok (.iastore, 1) := by decide +kernel
theorem dX4_share_15 : decode cX4_share 15 = .ok (.bipush 6, 2) := by decide +kernel
theorem dX4_share_17 : decode cX4_share 17 = .ok (.istore_n 1, 1) := by decide +kernel
theorem dX4_share_18 : decode cX4_share 18 = .ok (.iconst 0, 1) := by decide +kernel
theorem dX4_share_19 : decode cX4_share 19 = .ok (.istore_n 2, 1) := by decide +kernel
theorem dX4_share_20 : decode cX4_share 20 = .ok (.iload_n 2, 1) := by decide +kernel
theorem dX4_share_21 : decode cX4_share 21 = .ok (.iconst 5, 1) := by decide +kernel
theorem dX4_share_22 : decode cX4_share 22 = .ok (.if_icmp .ge 47, 3) := by decide +kernel
theorem dX4_share_25 : decode cX4_share 25 = .ok (.iload_n 1, 1) := by decide +kernel
theorem dX4_share_26 : decode cX4_share 26 = .ok (.aload_n 0, 1) := by decide +kernel
theorem dX4_share_27 : decode cX4_share 27 = .ok (.getfield 12, 3) := by decide +kernel
theorem dX4_share_30 : decode cX4_share 30 = .ok (.getfield 94, 3) := by decide +kernel
theorem dX4_share_33 : decode cX4_share 33 = .ok (.iload_n 2, 1) := by decide +kernel
theorem dX4_share_34 : decode cX4_share 34 = .ok (.iaload, 1) := by decide +kernel
theorem dX4_share_35 : decode cX4_share 35 = .ok (.invokestatic 133, 3) := by decide +kernel
theorem dX4_share_38 : decode cX4_share 38 = .ok (.istore_n 3, 1) := by decide +kernel
theorem dX4_share_39 : decode cX4_share 39 = .ok (.iconst 0, 1) := by decide +kernel
theorem dX4_share_40 : decode cX4_share 40 = .ok (.istore 4, 2) := by decide +kernel
theorem dX4_share_42 : decode cX4_share 42 = .ok (.iload 4, 2) := by decide +kernel
theorem dX4_share_44 : decode cX4_share 44 = .ok (.iload_n 3, 1) := by decide +kernel
theorem dX4_share_45 : decode cX4_share 45 = .ok (.if_icmp .ge 14, 3) := by decide +kernel
theorem dX4_share_48 : decode cX4_share 48 = .ok (.aload_n 0, 1) := by decide +kernel
theorem dX4_share_49 : decode cX4_share 49 = .ok (.iload_n 2, 1) := by decide +kernel
theorem dX4_share_50 : decode cX4_share 50 = .ok (.invokevirtual 190, 3) := by decide +kernel
theorem dX4_share_53 : decode cX4_share 53 = .ok (.iinc 4 1, 3) := by decide +kernel
theorem dX4_share_56 : decode cX4_share 56 = .ok (.goto (-14), 3) := by decide +kernel
theorem dX4_share_59 : decode cX4_share 59 = .ok (.iload_n 1, 1) := by decide +kernel
theorem dX4_share_60 : decode cX4_share 60 = .ok (.iload_n 3, 1) := by decide +kernel
theorem dX4_share_61 : decode cX4_share 61 = .ok (.isub, 1) := by decide +kernel
theorem dX4_share_62 : decode cX4_share 62 = .ok (.istore_n 1, 1) := by decide +kernel
theorem dX4_share_63 : decode cX4_share 63 = .ok (.iinc 2 1, 3) := by decide +kernel
theorem dX4_share_66 : decode cX4_share 66 = .ok (.goto (-46), 3) := by decide +kernel
theorem dX4_share_69 : decode cX4_share 69 = .ok (.aload_n 0, 1) := by decide +kernel
theorem dX4_share_70 : decode cX4_share 70 = .ok (.getfield 50, 3) := by decide +kernel
theorem dX4_share_73 : decode cX4_share 73 = .ok (.invokestatic 193, 3) := by decide +kernel
theorem dX4_share_76 : decode cX4_share 76 = .ok (.ireturn, 1) := by decide +kernel
theorem dX4_bottles_0 : decode cX4_bottles 0 = .ok (.iload_n 1, 1) := by decide +kernel
theorem dX4_bottles_1 : decode cX4_bottles 1 = .ok (.iconst 1, 1) := by decide +kernel
theorem dX4_bottles_2 : decode cX4_bottles 2 = .ok (.bipush 6, 2) := by decide +kernel
theorem dX4_bottles_4 : decode cX4_bottles 4 = .ok (.invokestatic 56, 3) := by decide +kernel
theorem dX4_bottles_7 : decode cX4_bottles 7 = .ok (.istore_n 2, 1) := by decide +kernel
theorem dX4_bottles_8 : decode cX4_bottles 8 = .ok (.iload_n 2, 1) := by decide +kernel
theorem dX4_bottles_9 : decode cX4_bottles 9 = .ok (.ifCond .ne 24, 3) := by decide +kernel
theorem dX4_bottles_12 : decode cX4_bottles 12 = .ok (.aload_n 0, 1) := by decide +kernel
theorem dX4_bottles_13 : decode cX4_bottles 13 = .ok (.getfield 197, 3) := by decide +kernel
theorem dX4_bottles_16 : decode cX4_bottles 16 = .ok (.iconst 3, 1) := by decide +kernel
theorem dX4_bottles_17 : decode cX4_bottles 17 = .ok (.irem, 1) := by decide +kernel
theorem dX4_bottles_18 : decode cX4_bottles 18 = .ok (.ifCond .ne 12, 3) := by decide +kernel
theorem dX4_bottles_21 : decode cX4_bottles 21 = .ok (.aload_n 0, 1) := by decide +kernel
theorem dX4_bottles_22 : decode cX4_bottles 22 = .ok (.getfield 197, 3) := by decide +kernel
theorem dX4_bottles_25 : decode cX4_bottles 25 = .ok (.bipush 18, 2) := by decide +kernel
theorem dX4_bottles_27 : decode cX4_bottles 27 = .ok (.if_icmp .le 6, 3) := by decide +kernel
theorem dX4_bottles_30 : decode cX4_bottles 30 = .ok (.bipush (-3), 2) := by decide +kernel
theorem dX4_bottles_32 : decode cX4_bottles 32 = .ok (.istore_n 2, 1) := by decide +kernel
theorem dX4_bottles_33 : decode cX4_bottles 33 = .ok (.iload_n 2, 1) := by decide +kernel
theorem dX4_bottles_34 : decode cX4_bottles 34 = .ok (.ifCond .eq 9, 3) := by decide +kernel
theorem dX4_bottles_37 : decode cX4_bottles 37 = .ok (.aload_n 0, 1) := by decide +kernel
theorem dX4_bottles_38 : decode cX4_bottles 38 = .ok (.iload_n 2, 1) := by decide +kernel
theorem dX4_bottles_39 : decode cX4_bottles 39 = .ok (.invokevirtual 64, 3) := by decide +kernel
theorem dX4_bottles_42 : decode cX4_bottles 42 = .ok (.ireturn, 1) := by decide +kernel
theorem dX4_bottles_43 : decode cX4_bottles 43 = .ok (.aload_n 0, 1) := by decide +kernel
theorem dX4_bottles_44 : decode cX4_bottles 44 = .ok (.getfield 53, 3) := by decide +kernel
theorem dX4_bottles_47 : decode cX4_bottles 47 = .ok (.iconst (-1), 1) := by decide +kernel
theorem dX4_bottles_48 : decode cX4_bottles 48 = .ok (.invokestatic 184, 3) := by decide +kernel
theorem dX4_bottles_51 : decode cX4_bottles 51 = .ok (.aload_n 0, 1) := by decide +kernel
theorem dX4_bottles_52 : decode cX4_bottles 52 = .ok (.getfield 53, 3) := by decide +kernel
theorem dX4_bottles_55 : decode cX4_bottles 55 = .ok (.iconst 0, 1) := by decide +kernel
theorem dX4_bottles_56 : decode cX4_bottles 56 = .ok (.iconst 0, 1) := by decide +kernel
theorem dX4_bottles_57 : decode cX4_bottles 57 = .ok (.iastore, 1) := by decide +kernel
theorem dX4_bottles_58 : decode cX4_bottles 58 = .ok (.iconst 0, 1) := by decide +kernel
theorem dX4_bottles_59 : decode cX4_bottles 59 = .ok (.istore_n 3, 1) := by decide +kernel
theorem dX4_bottles_60 : decode cX4_bottles 60 = .ok (.iload_n 3, 1) := by decide +kernel
theorem dX4_bottles_61 : decode cX4_bottles 61 = .ok (.iconst 2, 1) := by decide +kernel
theorem dX4_bottles_62 : decode cX4_bottles 62 = .ok (.iadd, 1) := by decide +kernel
theorem dX4_bottles_63 : decode cX4_bottles 63 = .ok (.aload_n 0, 1) := by decide +kernel
theorem dX4_bottles_64 : decode cX4_bottles 64 = .ok (.getfield 197, 3) := by decide +kernel
theorem dX4_bottles_67 : decode cX4_bottles 67 = .ok (.if_icmp .ge 41, 3) := by decide +kernel
theorem dX4_bottles_70 : decode cX4_bottles 70 = .ok (.aload_n 0, 1) := by decide +kernel
theorem dX4_bottles_71 : decode cX4_bottles 71 = .ok (.aload_n 0, 1) := by decide +kernel
theorem dX4_bottles_72 : decode cX4_bottles 72 = .ok (.getfield 43, 3) := by decide +kernel
theorem dX4_bottles_75 : decode cX4_bottles 75 = .ok (.iload_n 3, 1) := by decide +kernel
theorem dX4_bottles_76 : decode cX4_bottles 76 = .ok (.iaload, 1) := by decide +kernel
theorem dX4_bottles_77 : decode cX4_bottles 77 = .ok (.aload_n 0, 1) := by decide +kernel
theorem dX4_bottles_78 : decode cX4_bottles 78 = .ok (.getfield 43, 3) := by decide +kernel
theorem dX4_bottles_81 : decode cX4_bottles 81 = .ok (.iload_n 3, 1) := by decide +kernel
theorem dX4_bottles_82 : decode cX4_bottles 82 = .ok (.iconst 1, 1) := by decide +kernel
theorem dX4_bottles_83 : decode cX4_bottles 83 = .ok (.iadd, 1) := by decide +kernel
theorem dX4_bottles_84 : decode cX4_bottles 84 = .ok (.iaload, 1) := by decide +kernel
theorem dX4_bottles_85 : decode cX4_bottles 85 = .ok (.iload_n 1, 1) := by decide +kernel
theorem dX4_bottles_86 : decode cX4_bottles 86 = .ok (.iconst 1, 1) := by decide +kernel
theorem dX4_bottles_87 : decode cX4_bottles 87 = .ok (.isub, 1) := by decide +kernel
theorem dX4_bottles_88 : decode cX4_bottles 88 = .ok (.invokestatic 133, 3) := by decide +kernel
theorem dX4_bottles_91 : decode cX4_bottles 91 = .ok (.aload_n 0, 1) := by decide +kernel
theorem dX4_bottles_92 : decode cX4_bottles 92 = .ok (.getfield 43, 3) := by decide +kernel
theorem dX4_bottles_95 : decode cX4_bottles 95 = .ok (.iload_n 3, 1) := by decide +kernel
theorem dX4_bottles_96 : decode cX4_bottles 96 = .ok (.iconst 2, 1) := by decide +kernel
theorem dX4_bottles_97 : decode cX4_bottles 97 = .ok (.iadd, 1) := by decide +kernel
theorem dX4_bottles_98 : decode cX4_bottles 98 = .ok (.iaload, 1) := by decide +kernel
theorem dX4_bottles_99 : decode cX4_bottles 99 = .ok (.invokevirtual 200, 3) := by decide +kernel
theorem dX4_bottles_102 : decode cX4_bottles 102 = .ok (.iinc 3 3, 3) := by decide +kernel
theorem dX4_bottles_105 : decode cX4_bottles 105 = .ok (.goto (-45), 3) := by decide +kernel
theorem dX4_bottles_108 : decode cX4_bottles 108 = .ok (.aload_n 0, 1) := by decide +kernel
theorem dX4_bottles_109 : decode cX4_bottles 109 = .ok (.getfield 53, 3) := by decide +kernel
theorem dX4_bottles_112 : decode cX4_bottles 112 = .ok (.invokestatic 193, 3) := by decide +kernel
theorem dX4_bottles_115 : decode cX4_bottles 115 = .ok (.ireturn, 1) := by decide +kernel
theorem dX4_row_0 : decode cX4_row 0 = .ok (.iload_n 1, 1) := by decide +kernel
theorem dX4_row_1 : decode cX4_row 1 = .ok (.iconst 0, 1) := by decide +kernel
theorem dX4_row_2 : decode cX4_row 2 = .ok (.bipush 99, 2) := by decide +kernel
theorem dX4_row_4 : decode cX4_row 4 = .ok (.invokestatic 56, 3) := by decide +kernel
theorem dX4_row_7 : decode cX4_row 7 = .ok (.istore_n 2, 1) := by decide +kernel
theorem dX4_row_8 : decode cX4_row 8 = .ok (.iload_n 2, 1) := by decide +kernel
theorem dX4_row_9 : decode cX4_row 9 = .ok (.ifCond .ne 15, 3) := by decide +kernel
theorem dX4_row_12 : decode cX4_row 12 = .ok (.aload_n 0, 1) := by decide +kernel
theorem dX4_row_13 : decode cX4_row 13 = .ok (.getfield 197, 3) := by decide +kernel
theorem dX4_row_16 : decode cX4_row 16 = .ok (.bipush 20, 2) := by decide +kernel
theorem dX4_row_18 : decode cX4_row 18 = .ok (.if_icmp .lt 6, 3) := by decide +kernel
theorem dX4_row_21 : decode cX4_row 21 = .ok (.bipush (-6), 2) := by decide +kernel
theorem dX4_row_23 : decode cX4_row 23 = .ok (.istore_n 2, 1) := by decide +kernel
theorem dX4_row_24 : decode cX4_row 24 = .ok (.iload_n 2, 1) := by decide +kernel
theorem dX4_row_25 : decode cX4_row 25 = .ok (.ifCond .eq 9, 3) := by decide +kernel
theorem dX4_row_28 : decode cX4_row 28 = .ok (.aload_n 0, 1) := by decide +kernel
theorem dX4_row_29 : decode cX4_row 29 = .ok (.iload_n 2, 1) := by decide +kernel
theorem dX4_row_30 : decode cX4_row 30 = .ok (.invokevirtual 64, 3) := by decide +kernel
theorem dX4_row_33 : decode cX4_row 33 = .ok (.ireturn, 1) := by decide +kernel
theorem dX4_row_34 : decode cX4_row 34 = .ok (.aload_n 0, 1) := by decide +kernel
theorem dX4_row_35 : decode cX4_row 35 = .ok (.getfield 43, 3) := by decide +kernel
theorem dX4_row_38 : decode cX4_row 38 = .ok (.aload_n 0, 1) := by decide +kernel
theorem dX4_row_39 : decode cX4_row 39 = .ok (.getfield 197, 3) := by decide +kernel
theorem dX4_row_42 : decode cX4_row 42 = .ok (.iload_n 1, 1) := by decide +kernel
theorem dX4_row_43 : decode cX4_row 43 = .ok (.iastore, 1) := by decide +kernel
theorem dX4_row_44 : decode cX4_row 44 = .ok (.aload_n 0, 1) := by decide +kernel
theorem dX4_row_45 : decode cX4_row 45 = .ok (.dup, 1) := by decide +kernel
theorem dX4_row_46 : decode cX4_row 46 = .ok (.getfield 197, 3) := by decide +kernel
theorem dX4_row_49 : decode cX4_row 49 = .ok (.iconst 1, 1) := by decide +kernel
theorem dX4_row_50 : decode cX4_row 50 = .ok (.iadd, 1) := by decide +kernel
theorem dX4_row_51 : decode cX4_row 51 = .ok (.putfield 197, 3) := by decide +kernel
theorem dX4_row_54 : decode cX4_row 54 = .ok (.aload_n 0, 1) := by decide +kernel
theorem dX4_row_55 : decode cX4_row 55 = .ok (.getfield 197, 3) := by decide +kernel
theorem dX4_row_58 : decode cX4_row 58 = .ok (.ireturn, 1) := by decide +kernel
theorem dX4_fits_0 : decode cX4_fits 0 = .ok (.iconst 0, 1) := by decide +kernel
theorem dX4_fits_1 : decode cX4_fits 1 = .ok (.istore_n 1, 1) := by decide +kernel
theorem dX4_fits_2 : decode cX4_fits 2 = .ok (.iconst 0, 1) := by decide +kernel
theorem dX4_fits_3 : decode cX4_fits 3 = .ok (.istore_n 2, 1) := by decide +kernel
theorem dX4_fits_4 : decode cX4_fits 4 = .ok (.iload_n 2, 1) := by decide +kernel
theorem dX4_fits_5 : decode cX4_fits 5 = .ok (.getstatic 100, 3) := by decide +kernel
theorem dX4_fits_8 : decode cX4_fits 8 = .ok (.iconst 5, 1) := by decide +kernel
theorem dX4_fits_9 : decode cX4_fits 9 = .ok (.iaload, 1) := by decide +kernel
theorem dX4_fits_10 : decode cX4_fits 10 = .ok (.if_icmp .gt 23, 3) := by decide +kernel
theorem dX4_fits_13 : decode cX4_fits 13 = .ok (.aload_n 0, 1) := by decide +kernel
theorem dX4_fits_14 : decode cX4_fits 14 = .ok (.iload_n 2, 1) := by decide +kernel
theorem dX4_fits_15 : decode cX4_fits 15 = .ok (.invokevirtual 204, 3) := by decide +kernel
theorem dX4_fits_18 : decode cX4_fits 18 = .ok (.ifCond .eq 9, 3) := by decide +kernel
theorem dX4_fits_21 : decode cX4_fits 21 = .ok (.iload_n 1, 1) := by decide +kernel
theorem dX4_fits_22 : decode cX4_fits 22 = .ok (.iconst 1, 1) := by decide +kernel
theorem dX4_fits_23 : decode cX4_fits 23 = .ok (.iload_n 2, 1) := by decide +kernel
theorem dX4_fits_24 : decode cX4_fits 24 = .ok (.ishl, 1) := by decide +kernel
theorem dX4_fits_25 : decode cX4_fits 25 = .ok (.ior, 1) := by decide +kernel
theorem dX4_fits_26 : decode cX4_fits 26 = .ok (.istore_n 1, 1) := by decide +kernel
theorem dX4_fits_27 : decode cX4_fits 27 = .ok (.iinc 2 1, 3) := by decide +kernel
theorem dX4_fits_30 : decode cX4_fits 30 = .ok (.goto (-26), 3) := by decide +kernel
theorem dX4_fits_33 : decode cX4_fits 33 = .ok (.iload_n 1, 1) := by decide +kernel
theorem dX4_fits_34 : decode cX4_fits 34 = .ok (.ireturn, 1) := by decide +kernel
theorem dX4_judge_0 : decode cX4_judge 0 = .ok (.aload_n 0, 1) := by decide +kernel
theorem dX4_judge_1 : decode cX4_judge 1 = .ok (.invokevirtual 207, 3) := by decide +kernel
theorem dX4_judge_4 : decode cX4_judge 4 = .ok (.istore_n 1, 1) := by decide +kernel
theorem dX4_judge_5 : decode cX4_judge 5 = .ok (.aload_n 0, 1) := by decide +kernel
theorem dX4_judge_6 : decode cX4_judge 6 = .ok (.iconst 0, 1) := by decide +kernel
theorem dX4_judge_7 : decode cX4_judge 7 = .ok (.putfield 197, 3) := by decide +kernel
theorem dX4_judge_10 : decode cX4_judge 10 = .ok (.iload_n 1, 1) := by decide +kernel
theorem dX4_judge_11 : decode cX4_judge 11 = .ok (.ireturn, 1) := by decide +kernel
theorem dX4_lots_0 : decode cX4_lots 0 = .ok (.iload_n 1, 1) := by decide +kernel
theorem dX4_lots_1 : decode cX4_lots 1 = .ok (.iconst 1, 1) := by decide +kernel
theorem dX4_lots_2 : decode cX4_lots 2 = .ok (.bipush 20, 2) := by decide +kernel
theorem dX4_lots_4 : decode cX4_lots 4 = .ok (.invokestatic 56, 3) := by decide +kernel
theorem dX4_lots_7 : decode cX4_lots 7 = .ok (.istore_n 3, 1) := by decide +kernel
theorem dX4_lots_8 : decode cX4_lots 8 = .ok (.iload_n 3, 1) := by decide +kernel
theorem dX4_lots_9 : decode cX4_lots 9 = .ok (.ifCond .eq 9, 3) := by decide +kernel
theorem dX4_lots_12 : decode cX4_lots 12 = .ok (.aload_n 0, 1) := by decide +kernel
theorem dX4_lots_13 : decode cX4_lots 13 = .ok (.iload_n 3, 1) := by decide +kernel
theorem dX4_lots_14 : decode cX4_lots 14 = .ok (.invokevirtual 64, 3) := by decide +kernel
theorem dX4_lots_17 : decode cX4_lots 17 = .ok (.ireturn, 1) := by decide +kernel
theorem dX4_lots_18 : decode cX4_lots 18 = .ok (.iload_n 2, 1) := by decide +kernel
theorem dX4_lots_19 : decode cX4_lots 19 = .ok (.istore 4, 2) := by decide +kernel
theorem dX4_lots_21 : decode cX4_lots 21 = .ok (.iconst 0, 1) := by decide +kernel
theorem dX4_lots_22 : decode cX4_lots 22 = .ok (.istore 5, 2) := by decide +kernel
theorem dX4_lots_24 : decode cX4_lots 24 = .ok (.iconst 0, 1) := by decide +kernel
theorem dX4_lots_25 : decode cX4_lots 25 = .ok (.istore 6, 2) := by decide +kernel
theorem dX4_lots_27 : decode cX4_lots 27 = .ok (.iload 6, 2) := by decide +kernel
theorem dX4_lots_29 : decode cX4_lots 29 = .ok (.iload_n 1, 1) := by decide +kernel
theorem dX4_lots_30 : decode cX4_lots 30 = .ok (.if_icmp .ge 111, 3) := by decide +kernel
theorem dX4_lots_33 : decode cX4_lots 33 = .ok (.aload_n 0, 1) := by decide +kernel
theorem dX4_lots_34 : decode cX4_lots 34 = .ok (.invokevirtual 124, 3) := by decide +kernel
theorem dX4_lots_37 : decode cX4_lots 37 = .ok (.iconst 0, 1) := by decide +kernel
theorem dX4_lots_38 : decode cX4_lots 38 = .ok (.istore 7, 2) := by decide +kernel
theorem dX4_lots_40 : decode cX4_lots 40 = .ok (.iload 7, 2) := by decide +kernel
theorem dX4_lots_42 : decode cX4_lots 42 = .ok (.bipush 28, 2) := by decide +kernel
theorem dX4_lots_44 : decode cX4_lots 44 = .ok (.if_icmp .ge 91, 3) := by decide +kernel
theorem dX4_lots_47 : decode cX4_lots 47 = .ok (.iconst 0, 1) := by decide +kernel
theorem dX4_lots_48 : decode cX4_lots 48 = .ok (.istore 8, 2) := by decide +kernel
theorem dX4_lots_50 : decode cX4_lots 50 = .ok (.iload 8, 2) := by decide +kernel
theorem dX4_lots_52 : decode cX4_lots 52 = .ok (.aload_n 0, 1) := by decide +kernel
theorem dX4_lots_53 : decode cX4_lots 53 = .ok (.getfield 12, 3) := by decide +kernel
theorem dX4_lots_56 : decode cX4_lots 56 = .ok (.getfield 164, 3) := by decide +kernel
theorem dX4_lots_59 : decode cX4_lots 59 = .ok (.if_icmp .ge 50, 3) := by decide +kernel
theorem dX4_lots_62 : decode cX4_lots 62 = .ok (.iload 4, 2) := by decide +kernel
theorem dX4_lots_64 : decode cX4_lots 64 = .ok (.ldc 210, 2) := by decide +kernel
theorem dX4_lots_66 : decode cX4_lots 66 = .ok (.imul, 1) := by decide +kernel
theorem dX4_lots_67 : decode cX4_lots 67 = .ok (.ldc 211, 2) := by decide +kernel
theorem dX4_lots_69 : decode cX4_lots 69 = .ok (.iadd, 1) := by decide +kernel
theorem dX4_lots_70 : decode cX4_lots 70 = .ok (.istore 4, 2) := by decide +kernel
theorem dX4_lots_72 : decode cX4_lots 72 = .ok (.aload_n 0, 1) := by decide +kernel
theorem dX4_lots_73 : decode cX4_lots 73 = .ok (.getfield 19, 3) := by decide +kernel
theorem dX4_lots_76 : decode cX4_lots 76 = .ok (.getfield 87, 3) := by decide +kernel
theorem dX4_lots_79 : decode cX4_lots 79 = .ok (.iload 8, 2) := by decide +kernel
theorem dX4_lots_81 : decode cX4_lots 81 = .ok (.aaload, 1) := by decide +kernel
theorem dX4_lots_82 : decode cX4_lots 82 = .ok (.iconst 1, 1) := by decide +kernel
theorem dX4_lots_83 : decode cX4_lots 83 = .ok (.iload 4, 2) := by decide +kernel
theorem dX4_lots_85 : decode cX4_lots 85 = .ok (.aload_n 0, 1) := by decide +kernel
theorem dX4_lots_86 : decode cX4_lots 86 = .ok (.getfield 12, 3) := by decide +kernel
theorem dX4_lots_89 : decode cX4_lots 89 = .ok (.getfield 87, 3) := by decide +kernel
theorem dX4_lots_92 : decode cX4_lots 92 = .ok (.iload 8, 2) := by decide +kernel
theorem dX4_lots_94 : decode cX4_lots 94 = .ok (.aaload, 1) := by decide +kernel
theorem dX4_lots_95 : decode cX4_lots 95 = .ok (.iconst 1, 1) := by decide +kernel
theorem dX4_lots_96 : decode cX4_lots 96 = .ok (.iaload, 1) := by decide +kernel
theorem dX4_lots_97 : decode cX4_lots 97 = .ok (.iconst 3, 1) := by decide +kernel
theorem dX4_lots_98 : decode cX4_lots 98 = .ok (.iadd, 1) := by decide +kernel
theorem dX4_lots_99 : decode cX4_lots 99 = .ok (.invokestatic 212, 3) := by decide +kernel
theorem dX4_lots_102 : decode cX4_lots 102 = .ok (.iastore, 1) := by decide +kernel
theorem dX4_lots_103 : decode cX4_lots 103 = .ok (.iinc 8 1, 3) := by decide +kernel
theorem dX4_lots_106 : decode cX4_lots 106 = .ok (.goto (-56), 3) := by decide +kernel
theorem dX4_lots_109 : decode cX4_lots 109 = .ok (.aload_n 0, 1) := by decide +kernel
theorem dX4_lots_110 : decode cX4_lots 110 = .ok (.iconst 1, 1) := by decide +kernel
theorem dX4_lots_111 : decode cX4_lots 111 = .ok (.invokevirtual 127, 3) := by decide +kernel
theorem dX4_lots_114 : decode cX4_lots 114 = .ok (.pop, 1) := by decide +kernel
theorem dX4_lots_115 : decode cX4_lots 115 = .ok (.iload 5, 2) := by decide +kernel
theorem dX4_lots_117 : decode cX4_lots 117 = .ok (.aload_n 0, 1) := by decide +kernel
theorem dX4_lots_118 : decode cX4_lots 118 = .ok (.getfield 25, 3) := by decide +kernel
theorem dX4_lots_121 : decode cX4_lots 121 = .ok (.getfield 121, 3) := by decide +kernel
theorem dX4_lots_124 : decode cX4_lots 124 = .ok (.iconst 3, 1) := by decide +kernel
theorem dX4_lots_125 : decode cX4_lots 125 = .ok (.iaload, 1) := by decide +kernel
theorem dX4_lots_126 : decode cX4_lots 126 = .ok (.iadd, 1) := by decide +kernel
theorem dX4_lots_127 : decode cX4_lots 127 = .ok (.istore 5, 2) := by decide +kernel
theorem dX4_lots_129 : decode cX4_lots 129 = .ok (.iinc 7 1, 3) := by decide +kernel
theorem dX4_lots_132 : decode cX4_lots 132 = .ok (.goto (-92), 3) := by decide +kernel
theorem dX4_lots_135 : decode cX4_lots 135 = .ok (.iinc 6 1, 3) := by decide +kernel
theorem dX4_lots_138 : decode cX4_lots 138 = .ok (.goto (-111), 3) := by decide +kernel
theorem dX4_lots_141 : decode cX4_lots 141 = .ok (.iload 5, 2) := by decide +kernel
theorem dX4_lots_143 : decode cX4_lots 143 = .ok (.ireturn, 1) := by decide +kernel
theorem dX4_image_0 : decode cX4_image 0 = .ok (.aload_n 0, 1) := by decide +kernel
theorem dX4_image_1 : decode cX4_image 1 = .ok (.getfield 16, 3) := by decide +kernel
theorem dX4_image_4 : decode cX4_image 4 = .ok (.aload_n 0, 1) := by decide +kernel
theorem dX4_image_5 : decode cX4_image 5 = .ok (.getfield 12, 3) := by decide +kernel
theorem dX4_image_8 : decode cX4_image 8 = .ok (.invokevirtual 215, 3) := by decide +kernel
theorem dX4_image_11 : decode cX4_image 11 = .ok (.aload_n 0, 1) := by decide +kernel
theorem dX4_image_12 : decode cX4_image 12 = .ok (.iconst 1, 1) := by decide +kernel
theorem dX4_image_13 : decode cX4_image 13 = .ok (.putfield 219, 3) := by decide +kernel
theorem dX4_image_16 : decode cX4_image 16 = .ok (.aload_n 0, 1) := by decide +kernel
theorem dX4_image_17 : decode cX4_image 17 = .ok (.getfield 12, 3) := by decide +kernel
theorem dX4_image_20 : decode cX4_image 20 = .ok (.getfield 110, 3) := by decide +kernel
theorem dX4_image_23 : decode cX4_image 23 = .ok (.ireturn, 1) := by decide +kernel
theorem dX4_on_0 : decode cX4_on 0 = .ok (.aload_n 0, 1) := by decide +kernel
theorem dX4_on_1 : decode cX4_on 1 = .ok (.getfield 219, 3) := by decide +kernel
theorem dX4_on_4 : decode cX4_on 4 = .ok (.ifCond .ne 10, 3) := by decide +kernel
theorem dX4_on_7 : decode cX4_on 7 = .ok (.aload_n 0, 1) := by decide +kernel
theorem dX4_on_8 : decode cX4_on 8 = .ok (.bipush (-3), 2) := by decide +kernel
theorem dX4_on_10 : decode cX4_on 10 = .ok (.invokevirtual 64, 3) := by decide +kernel
theorem dX4_on_13 : decode cX4_on 13 = .ok (.ireturn, 1) := by decide +kernel
theorem dX4_on_14 : decode cX4_on 14 = .ok (.aload_n 0, 1) := by decide +kernel
theorem dX4_on_15 : decode cX4_on 15 = .ok (.getfield 12, 3) := by decide +kernel
theorem dX4_on_18 : decode cX4_on 18 = .ok (.aload_n 0, 1) := by decide +kernel
theorem dX4_on_19 : decode cX4_on 19 = .ok (.getfield 16, 3) := by decide +kernel
theorem dX4_on_22 : decode cX4_on 22 = .ok (.invokevirtual 215, 3) := by decide +kernel
theorem dX4_on_25 : decode cX4_on 25 = .ok (.aload_n 0, 1) := by decide +kernel
theorem dX4_on_26 : decode cX4_on 26 = .ok (.getfield 12, 3) := by decide +kernel
theorem dX4_on_29 : decode cX4_on 29 = .ok (.getfield 110, 3) := by decide +kernel
theorem dX4_on_32 : decode cX4_on 32 = .ok (.ireturn, 1) := by decide +kernel
theorem dX4_count_0 : decode cX4_count 0 = .ok (.iload_n 1, 1) := by decide +kernel
theorem dX4_count_1 : decode cX4_count 1 = .ok (.bipush 11, 2) := by decide +kernel
theorem dX4_count_3 : decode cX4_count 3 = .ok (.bipush 16, 2) := by decide +kernel
theorem dX4_count_5 : decode cX4_count 5 = .ok (.invokestatic 83, 3) := by decide +kernel
theorem dX4_count_8 : decode cX4_count 8 = .ok (.ifCond .eq 13, 3) := by decide +kernel
theorem dX4_count_11 : decode cX4_count 11 = .ok (.aload_n 0, 1) := by decide +kernel
theorem dX4_count_12 : decode cX4_count 12 = .ok (.getfield 47, 3) := by decide +kernel
theorem dX4_count_15 : decode cX4_count 15 = .ok (.iload_n 1, 1) := by decide +kernel
theorem dX4_count_16 : decode cX4_count 16 = .ok (.bipush 10, 2) := by decide +kernel
theorem dX4_count_18 : decode cX4_count 18 = .ok (.isub, 1) := by decide +kernel
theorem dX4_count_19 : decode cX4_count 19 = .ok (.iaload, 1) := by decide +kernel
theorem dX4_count_20 : decode cX4_count 20 = .ok (.ireturn, 1) := by decide +kernel
theorem dX4_count_21 : decode cX4_count 21 = .ok (.iload_n 1, 1) := by decide +kernel
theorem dX4_count_22 : decode cX4_count 22 = .ok (.tableswitch 123 0 8 #[50, 58, 66, 74, 84, 92, 102, 110, 115], 50) := by decide +kernel
theorem dX4_count_72 : decode cX4_count 72 = .ok (.aload_n 0, 1) := by decide +kernel
theorem dX4_count_73 : decode cX4_count 73 = .ok (.getfield 12, 3) := by decide +kernel
theorem dX4_count_76 : decode cX4_count 76 = .ok (.getfield 164, 3) := by decide +kernel
theorem dX4_count_79 : decode cX4_count 79 = .ok (.ireturn, 1) := by decide +kernel
theorem dX4_count_80 : decode cX4_count 80 = .ok (.aload_n 0, 1) := by decide +kernel
theorem dX4_count_81 : decode cX4_count 81 = .ok (.getfield 12, 3) := by decide +kernel
theorem dX4_count_84 : decode cX4_count 84 = .ok (.getfield 110, 3) := by decide +kernel
theorem dX4_count_87 : decode cX4_count 87 = .ok (.ireturn, 1) := by decide +kernel
theorem dX4_count_88 : decode cX4_count 88 = .ok (.aload_n 0, 1) := by decide +kernel
theorem dX4_count_89 : decode cX4_count 89 = .ok (.getfield 12, 3) := by decide +kernel
theorem dX4_count_92 : decode cX4_count 92 = .ok (.invokevirtual 130, 3) := by decide +kernel
theorem dX4_count_95 : decode cX4_count 95 = .ok (.ireturn, 1) := by decide +kernel
theorem dX4_count_96 : decode cX4_count 96 = .ok (.aload_n 0, 1) := by decide +kernel
theorem dX4_count_97 : decode cX4_count 97 = .ok (.getfield 12, 3) := by decide +kernel
theorem dX4_count_100 : decode cX4_count 100 = .ok (.getfield 103, 3) := by decide +kernel
theorem dX4_count_103 : decode cX4_count 103 = .ok (.iconst 0, 1) := by decide +kernel
theorem dX4_count_104 : decode cX4_count 104 = .ok (.iaload, 1) := by decide +kernel
theorem dX4_count_105 : decode cX4_count 105 = .ok (.ireturn, 1) := by decide +kernel
theorem dX4_count_106 : decode cX4_count 106 = .ok (.aload_n 0, 1) := by decide +kernel
theorem dX4_count_107 : decode cX4_count 107 = .ok (.getfield 12, 3) := by decide +kernel
theorem dX4_count_110 : decode cX4_count 110 = .ok (.invokevirtual 150, 3) := by decide +kernel
theorem dX4_count_113 : decode cX4_count 113 = .ok (.ireturn, 1) := by decide +kernel
theorem dX4_count_114 : decode cX4_count 114 = .ok (.aload_n 0, 1) := by decide +kernel
theorem dX4_count_115 : decode cX4_count 115 = .ok (.getfield 12, 3) := by decide +kernel
theorem dX4_count_118 : decode cX4_count 118 = .ok (.getfield 103, 3) := by decide +kernel
theorem dX4_count_121 : decode cX4_count 121 = .ok (.iconst 5, 1) := by decide +kernel
theorem dX4_count_122 : decode cX4_count 122 = .ok (.iaload, 1) := by decide +kernel
theorem dX4_count_123 : decode cX4_count 123 = .ok (.ireturn, 1) := by decide +kernel
theorem dX4_count_124 : decode cX4_count 124 = .ok (.aload_n 0, 1) := by decide +kernel
theorem dX4_count_125 : decode cX4_count 125 = .ok (.getfield 12, 3) := by decide +kernel
theorem dX4_count_128 : decode cX4_count 128 = .ok (.invokevirtual 223, 3) := by decide +kernel
theorem dX4_count_131 : decode cX4_count 131 = .ok (.ireturn, 1) := by decide +kernel
theorem dX4_count_132 : decode cX4_count 132 = .ok (.aload_n 0, 1) := by decide +kernel
theorem dX4_count_133 : decode cX4_count 133 = .ok (.getfield 197, 3) := by decide +kernel
theorem dX4_count_136 : decode cX4_count 136 = .ok (.ireturn, 1) := by decide +kernel
theorem dX4_count_137 : decode cX4_count 137 = .ok (.aload_n 0, 1) := by decide +kernel
theorem dX4_count_138 : decode cX4_count 138 = .ok (.getfield 39, 3) := by decide +kernel
theorem dX4_count_141 : decode cX4_count 141 = .ok (.getfield 60, 3) := by decide +kernel
theorem dX4_count_144 : decode cX4_count 144 = .ok (.ireturn, 1) := by decide +kernel
theorem dX4_count_145 : decode cX4_count 145 = .ok (.bipush (-9), 2) := by decide +kernel
theorem dX4_count_147 : decode cX4_count 147 = .ok (.ireturn, 1) := by decide +kernel
theorem dX4_within_0 : decode cX4_within 0 = .ok (.iload_n 0, 1) := by decide +kernel
theorem dX4_within_1 : decode cX4_within 1 = .ok (.iload_n 1, 1) := by decide +kernel
theorem dX4_within_2 : decode cX4_within 2 = .ok (.if_icmp .lt 12, 3) := by decide +kernel
theorem dX4_within_5 : decode cX4_within 5 = .ok (.iload_n 0, 1) := by decide +kernel
theorem dX4_within_6 : decode cX4_within 6 = .ok (.iload_n 2, 1) := by decide +kernel
theorem dX4_within_7 : decode cX4_within 7 = .ok (.if_icmp .gt 7, 3) := by decide +kernel
theorem dX4_within_10 : decode cX4_within 10 = .ok (.iconst 1, 1) := by decide +kernel
theorem dX4_within_11 : decode cX4_within 11 = .ok (.goto 4, 3) := by decide +kernel
theorem dX4_within_14 : decode cX4_within 14 = .ok (.iconst 0, 1) := by decide +kernel
theorem dX4_within_15 : decode cX4_within 15 = .ok (.ireturn, 1) := by decide +kernel
theorem dX4_isAge_0 : decode cX4_isAge 0 = .ok (.iload_n 0, 1) := by decide +kernel
theorem dX4_isAge_1 : decode cX4_isAge 1 = .ok (.ifCond .lt 12, 3) := by decide +kernel
theorem dX4_isAge_4 : decode cX4_isAge 4 = .ok (.iload_n 0, 1) := by decide +kernel
theorem dX4_isAge_5 : decode cX4_isAge 5 = .ok (.iconst 5, 1) := by decide +kernel
theorem dX4_isAge_6 : decode cX4_isAge 6 = .ok (.if_icmp .ge 7, 3) := by decide +kernel
theorem dX4_isAge_9 : decode cX4_isAge 9 = .ok (.iconst 1, 1) := by decide +kernel
theorem dX4_isAge_10 : decode cX4_isAge 10 = .ok (.goto 4, 3) := by decide +kernel
theorem dX4_isAge_13 : decode cX4_isAge 13 = .ok (.iconst 0, 1) := by decide +kernel
theorem dX4_isAge_14 : decode cX4_isAge 14 = .ok (.ireturn, 1) := by decide +kernel
theorem dX4_outside_0 : decode cX4_outside 0 = .ok (.iload_n 0, 1) := by decide +kernel
theorem dX4_outside_1 : decode cX4_outside 1 = .ok (.iload_n 1, 1) := by decide +kernel
theorem dX4_outside_2 : decode cX4_outside 2 = .ok (.if_icmp .ge 6, 3) := by decide +kernel
theorem dX4_outside_5 : decode cX4_outside 5 = .ok (.bipush (-4), 2) := by decide +kernel
theorem dX4_outside_7 : decode cX4_outside 7 = .ok (.ireturn, 1) := by decide +kernel
theorem dX4_outside_8 : decode cX4_outside 8 = .ok (.iload_n 0, 1) := by decide +kernel
theorem dX4_outside_9 : decode cX4_outside 9 = .ok (.iload_n 2, 1) := by decide +kernel
theorem dX4_outside_10 : decode cX4_outside 10 = .ok (.if_icmp .le 8, 3) := by decide +kernel
theorem dX4_outside_13 : decode cX4_outside 13 = .ok (.bipush (-6), 2) := by decide +kernel
theorem dX4_outside_15 : decode cX4_outside 15 = .ok (.goto 4, 3) := by decide +kernel
theorem dX4_outside_18 : decode cX4_outside 18 = .ok (.iconst 0, 1) := by decide +kernel
theorem dX4_outside_19 : decode cX4_outside 19 = .ok (.ireturn, 1) := by decide +kernel
theorem dX4_refuse_0 : decode cX4_refuse 0 = .ok (.iload_n 1, 1) := by decide +kernel
theorem dX4_refuse_1 : decode cX4_refuse 1 = .ok (.ineg, 1) := by decide +kernel
theorem dX4_refuse_2 : decode cX4_refuse 2 = .ok (.iconst 1, 1) := by decide +kernel
theorem dX4_refuse_3 : decode cX4_refuse 3 = .ok (.bipush 6, 2) := by decide +kernel
theorem dX4_refuse_5 : decode cX4_refuse 5 = .ok (.invokestatic 83, 3) := by decide +kernel
theorem dX4_refuse_8 : decode cX4_refuse 8 = .ok (.ifCond .eq 14, 3) := by decide +kernel
theorem dX4_refuse_11 : decode cX4_refuse 11 = .ok (.aload_n 0, 1) := by decide +kernel
theorem dX4_refuse_12 : decode cX4_refuse 12 = .ok (.getfield 47, 3) := by decide +kernel
theorem dX4_refuse_15 : decode cX4_refuse 15 = .ok (.iload_n 1, 1) := by decide +kernel
theorem dX4_refuse_16 : decode cX4_refuse 16 = .ok (.ineg, 1) := by decide +kernel
theorem dX4_refuse_17 : decode cX4_refuse 17 = .ok (.dup2, 1) := by decide +kernel
theorem dX4_refuse_18 : decode cX4_refuse 18 = .ok (.iaload, 1) := by decide +kernel
theorem dX4_refuse_19 : decode cX4_refuse 19 = .ok (.iconst 1, 1) := by decide +kernel
theorem dX4_refuse_20 : decode cX4_refuse 20 = .ok (.iadd, 1) := by decide +kernel
theorem dX4_refuse_21 : decode cX4_refuse 21 = .ok (.iastore, 1) := by decide +kernel
theorem dX4_refuse_22 : decode cX4_refuse 22 = .ok (.iload_n 1, 1) := by decide +kernel
theorem dX4_refuse_23 : decode cX4_refuse 23 = .ok (.ireturn, 1) := by decide +kernel
theorem dX4_becomeHouse_0 : decode cX4_becomeHouse 0 = .ok (.aload_n 0, 1) := by decide +kernel
theorem dX4_becomeHouse_1 : decode cX4_becomeHouse 1 = .ok (.invokevirtual 124, 3) := by decide +kernel
theorem dX4_becomeHouse_4 : decode cX4_becomeHouse 4 = .ok (.iconst 0, 1) := by decide +kernel
theorem dX4_becomeHouse_5 : decode cX4_becomeHouse 5 = .ok (.istore_n 1, 1) := by decide +kernel
theorem dX4_becomeHouse_6 : decode cX4_becomeHouse 6 = .ok (.iconst 0, 1) := by decide +kernel
theorem dX4_becomeHouse_7 : decode cX4_becomeHouse 7 = .ok (.istore_n 2, 1) := by decide +kernel
theorem dX4_becomeHouse_8 : decode cX4_becomeHouse 8 = .ok (.iconst 0, 1) := by decide +kernel
theorem dX4_becomeHouse_9 : decode cX4_becomeHouse 9 = .ok (.istore_n 3, 1) := by decide +kernel
theorem dX4_becomeHouse_10 : decode cX4_becomeHouse 10 = .ok (.iload_n 3, 1) := by decide +kernel
theorem dX4_becomeHouse_11 : decode cX4_becomeHouse 11 = .ok (.bipush 96, 2) := by decide +kernel
theorem dX4_becomeHouse_13 : decode cX4_becomeHouse 13 = .ok (.if_icmp .ge 57, 3) := by decide +kernel
theorem dX4_becomeHouse_16 : decode cX4_becomeHouse 16 = .ok (.iload_n 2, 1) := by decide +kernel
theorem dX4_becomeHouse_17 : decode cX4_becomeHouse 17 = .ok (.aload_n 0, 1) := by decide +kernel
theorem dX4_becomeHouse_18 : decode cX4_becomeHouse 18 = .ok (.getfield 39, 3) := by decide +kernel
theorem dX4_becomeHouse_21 : decode cX4_becomeHouse 21 = .ok (.getfield 60, 3) := by decide +kernel
theorem dX4_becomeHouse_24 : decode cX4_becomeHouse 24 = .ok (.if_icmp .ge 46, 3) := by decide +kernel
theorem dX4_becomeHouse_27 : decode cX4_becomeHouse 27 = .ok (.aload_n 0, 1) := by decide +kernel
theorem dX4_becomeHouse_28 : decode cX4_becomeHouse 28 = .ok (.getfield 39, 3) := by decide +kernel
theorem dX4_becomeHouse_31 : decode cX4_becomeHouse 31 = .ok (.iload_n 2, 1) := by decide +kernel
theorem dX4_becomeHouse_32 : decode cX4_becomeHouse 32 = .ok (.aload_n 0, 1) := by decide +kernel
theorem dX4_becomeHouse_33 : decode cX4_becomeHouse 33 = .ok (.getfield 19, 3) := by decide +kernel
theorem dX4_becomeHouse_36 : decode cX4_becomeHouse 36 = .ok (.aload_n 0, 1) := by decide +kernel
theorem dX4_becomeHouse_37 : decode cX4_becomeHouse 37 = .ok (.getfield 25, 3) := by decide +kernel
theorem dX4_becomeHouse_40 : decode cX4_becomeHouse 40 = .ok (.invokevirtual 226, 3) := by decide +kernel
theorem dX4_becomeHouse_43 : decode cX4_becomeHouse 43 = .ok (.ifCond .ne 9, 3) := by decide +kernel
theorem dX4_becomeHouse_46 : decode cX4_becomeHouse 46 = .ok (.sipush (-2000), 3) := by decide +kernel
theorem dX4_becomeHouse_49 : decode cX4_becomeHouse 49 = .ok (.iload_n 2, 1) := by decide +kernel
theorem dX4_becomeHouse_50 : decode cX4_becomeHouse 50 = .ok (.isub, 1) := by decide +kernel
theorem dX4_becomeHouse_51 : decode cX4_becomeHouse 51 = .ok (.ireturn, 1) := by decide +kernel
theorem dX4_becomeHouse_52 : decode cX4_becomeHouse 52 = .ok (.iinc 1 1, 3) := by decide +kernel
theorem dX4_becomeHouse_55 : decode cX4_becomeHouse 55 = .ok (.aload_n 0, 1) := by decide +kernel
theorem dX4_becomeHouse_56 : decode cX4_becomeHouse 56 = .ok (.getfield 39, 3) := by decide +kernel
theorem dX4_becomeHouse_59 : decode cX4_becomeHouse 59 = .ok (.iload_n 2, 1) := by decide +kernel
theorem dX4_becomeHouse_60 : decode cX4_becomeHouse 60 = .ok (.invokevirtual 230, 3) := by decide +kernel
theorem dX4_becomeHouse_63 : decode cX4_becomeHouse 63 = .ok (.istore_n 2, 1) := by decide +kernel
theorem dX4_becomeHouse_64 : decode cX4_becomeHouse 64 = .ok (.iinc 3 1, 3) := by decide +kernel
theorem dX4_becomeHouse_67 : decode cX4_becomeHouse 67 = .ok (.goto (-57), 3) := by decide +kernel
theorem dX4_becomeHouse_70 : decode cX4_becomeHouse 70 = .ok (.aload_n 0, 1) := by decide +kernel
theorem dX4_becomeHouse_71 : decode cX4_becomeHouse 71 = .ok (.getfield 12, 3) := by decide +kernel
theorem dX4_becomeHouse_74 : decode cX4_becomeHouse 74 = .ok (.aload_n 0, 1) := by decide +kernel
theorem dX4_becomeHouse_75 : decode cX4_becomeHouse 75 = .ok (.getfield 19, 3) := by decide +kernel
theorem dX4_becomeHouse_78 : decode cX4_becomeHouse 78 = .ok (.invokevirtual 215, 3) := by decide +kernel
theorem dX4_becomeHouse_81 : decode cX4_becomeHouse 81 = .ok (.iload_n 1, 1) := by decide +kernel
theorem dX4_becomeHouse_82 : decode cX4_becomeHouse 82 = .ok (.ireturn, 1) := by decide +kernel
theorem dX4_think_0 : decode cX4_think 0 = .ok (.aload_n 0, 1) := by decide +kernel
theorem dX4_think_1 : decode cX4_think 1 = .ok (.getfield 19, 3) := by decide +kernel
theorem dX4_think_4 : decode cX4_think 4 = .ok (.aload_n 0, 1) := by decide +kernel
theorem dX4_think_5 : decode cX4_think 5 = .ok (.getfield 12, 3) := by decide +kernel
theorem dX4_think_8 : decode cX4_think 8 = .ok (.invokevirtual 215, 3) := by decide +kernel
theorem dX4_think_11 : decode cX4_think 11 = .ok (.return_, 1) := by decide +kernel
theorem dX4_passInMind_0 : decode cX4_passInMind 0 = .ok (.aload_n 0, 1) := by decide +kernel
theorem dX4_passInMind_1 : decode cX4_passInMind 1 = .ok (.getfield 25, 3) := by decide +kernel
theorem dX4_passInMind_4 : decode cX4_passInMind 4 = .ok (.invokevirtual 114, 3) := by decide +kernel
theorem dX4_passInMind_7 : decode cX4_passInMind 7 = .ok (.iconst 0, 1) := by decide +kernel
theorem dX4_passInMind_8 : decode cX4_passInMind 8 = .ok (.istore_n 2, 1) := by decide +kernel
theorem dX4_passInMind_9 : decode cX4_passInMind 9 = .ok (.iload_n 2, 1) := by decide +kernel
theorem dX4_passInMind_10 : decode cX4_passInMind 10 = .ok (.iload_n 1, 1) := by decide +kernel
theorem dX4_passInMind_11 : decode cX4_passInMind 11 = .ok (.if_icmp .ge 20, 3) := by decide +kernel
theorem dX4_passInMind_14 : decode cX4_passInMind 14 = .ok (.aload_n 0, 1) := by decide +kernel
theorem dX4_passInMind_15 : decode cX4_passInMind 15 = .ok (.getfield 19, 3) := by decide +kernel
theorem dX4_passInMind_18 : decode cX4_passInMind 18 = .ok (.aload_n 0, 1) := by decide +kernel
theorem dX4_passInMind_19 : decode cX4_passInMind 19 = .ok (.getfield 25, 3) := by decide +kernel
theorem dX4_passInMind_22 : decode cX4_passInMind 22 = .ok (.invokevirtual 117, 3) := by decide +kernel
theorem dX4_passInMind_25 : decode cX4_passInMind 25 = .ok (.iinc 2 1, 3) := by decide +kernel
theorem dX4_passInMind_28 : decode cX4_passInMind 28 = .ok (.goto (-19), 3) := by decide +kernel
theorem dX4_passInMind_31 : decode cX4_passInMind 31 = .ok (.aload_n 0, 1) := by decide +kernel
theorem dX4_passInMind_32 : decode cX4_passInMind 32 = .ok (.getfield 25, 3) := by decide +kernel
theorem dX4_passInMind_35 : decode cX4_passInMind 35 = .ok (.getfield 121, 3) := by decide +kernel
theorem dX4_passInMind_38 : decode cX4_passInMind 38 = .ok (.iconst 0, 1) := by decide +kernel
theorem dX4_passInMind_39 : decode cX4_passInMind 39 = .ok (.iaload, 1) := by decide +kernel
theorem dX4_passInMind_40 : decode cX4_passInMind 40 = .ok (.ireturn, 1) := by decide +kernel
theorem dX4_bestOfSetting_0 : decode cX4_bestOfSetting 0 = .ok (.aload_n 0, 1) := by decide +kernel
theorem dX4_bestOfSetting_1 : decode cX4_bestOfSetting 1 = .ok (.getfield 32, 3) := by decide +kernel
theorem dX4_bestOfSetting_4 : decode cX4_bestOfSetting 4 = .ok (.invokevirtual 138, 3) := by decide +kernel
theorem dX4_bestOfSetting_7 : decode cX4_bestOfSetting 7 = .ok (.iconst 0, 1) := by decide +kernel
theorem dX4_bestOfSetting_8 : decode cX4_bestOfSetting 8 = .ok (.istore_n 3, 1) := by decide +kernel
theorem dX4_bestOfSetting_9 : decode cX4_bestOfSetting 9 = .ok (.iload_n 3, 1) := by decide +kernel
theorem dX4_bestOfSetting_10 : decode cX4_bestOfSetting 10 = .ok (.getstatic 100, 3) := by decide +kernel
theorem dX4_bestOfSetting_13 : decode cX4_bestOfSetting 13 = .ok (.iload_n 1, 1) := by decide +kernel
theorem dX4_bestOfSetting_14 : decode cX4_bestOfSetting 14 = .ok (.iaload, 1) := by decide +kernel
theorem dX4_bestOfSetting_15 : decode cX4_bestOfSetting 15 = .ok (.if_icmp .gt 36, 3) := by decide +kernel
theorem dX4_bestOfSetting_18 : decode cX4_bestOfSetting 18 = .ok (.aload_n 0, 1) := by decide +kernel
theorem dX4_bestOfSetting_19 : decode cX4_bestOfSetting 19 = .ok (.invokevirtual 124, 3) := by decide +kernel
theorem dX4_bestOfSetting_22 : decode cX4_bestOfSetting 22 = .ok (.aload_n 0, 1) := by decide +kernel
theorem dX4_bestOfSetting_23 : decode cX4_bestOfSetting 23 = .ok (.getfield 19, 3) := by decide +kernel
theorem dX4_bestOfSetting_26 : decode cX4_bestOfSetting 26 = .ok (.getfield 103, 3) := by decide +kernel
theorem dX4_bestOfSetting_29 : decode cX4_bestOfSetting 29 = .ok (.iload_n 1, 1) := by decide +kernel
theorem dX4_bestOfSetting_30 : decode cX4_bestOfSetting 30 = .ok (.iload_n 3, 1) := by decide +kernel
theorem dX4_bestOfSetting_31 : decode cX4_bestOfSetting 31 = .ok (.iastore, 1) := by decide +kernel
theorem dX4_bestOfSetting_32 : decode cX4_bestOfSetting 32 = .ok (.aload_n 0, 1) := by decide +kernel
theorem dX4_bestOfSetting_33 : decode cX4_bestOfSetting 33 = .ok (.getfield 32, 3) := by decide +kernel
theorem dX4_bestOfSetting_36 : decode cX4_bestOfSetting 36 = .ok (.iload_n 3, 1) := by decide +kernel
theorem dX4_bestOfSetting_37 : decode cX4_bestOfSetting 37 = .ok (.aload_n 0, 1) := by decide +kernel
theorem dX4_bestOfSetting_38 : decode cX4_bestOfSetting 38 = .ok (.iload_n 2, 1) := by decide +kernel
theorem dX4_bestOfSetting_39 : decode cX4_bestOfSetting 39 = .ok (.invokevirtual 127, 3) := by decide +kernel
theorem dX4_bestOfSetting_42 : decode cX4_bestOfSetting 42 = .ok (.invokevirtual 143, 3) := by decide +kernel
theorem dX4_bestOfSetting_45 : decode cX4_bestOfSetting 45 = .ok (.iinc 3 1, 3) := by decide +kernel
theorem dX4_bestOfSetting_48 : decode cX4_bestOfSetting 48 = .ok (.goto (-39), 3) := by decide +kernel
theorem dX4_bestOfSetting_51 : decode cX4_bestOfSetting 51 = .ok (.aload_n 0, 1) := by decide +kernel
theorem dX4_bestOfSetting_52 : decode cX4_bestOfSetting 52 = .ok (.getfield 32, 3) := by decide +kernel
theorem dX4_bestOfSetting_55 : decode cX4_bestOfSetting 55 = .ok (.getfield 147, 3) := by decide +kernel
theorem dX4_bestOfSetting_58 : decode cX4_bestOfSetting 58 = .ok (.ireturn, 1) := by decide +kernel
theorem dX4_chanceOf_0 : decode cX4_chanceOf 0 = .ok (.lconst 1, 1) := by decide +kernel
theorem dX4_chanceOf_1 : decode cX4_chanceOf 1 = .ok (.lstore_n 2, 1) := by decide +kernel
theorem dX4_chanceOf_2 : decode cX4_chanceOf 2 = .ok (.iconst 0, 1) := by decide +kernel
theorem dX4_chanceOf_3 : decode cX4_chanceOf 3 = .ok (.istore 4, 2) := by decide +kernel
theorem dX4_chanceOf_5 : decode cX4_chanceOf 5 = .ok (.iload 4, 2) := by decide +kernel
theorem dX4_chanceOf_7 : decode cX4_chanceOf 7 = .ok (.aload_n 0, 1) := by decide +kernel
theorem dX4_chanceOf_8 : decode cX4_chanceOf 8 = .ok (.getfield 12, 3) := by decide +kernel
theorem dX4_chanceOf_11 : decode cX4_chanceOf 11 = .ok (.getfield 164, 3) := by decide +kernel
theorem dX4_chanceOf_14 : decode cX4_chanceOf 14 = .ok (.if_icmp .ge 48, 3) := by decide +kernel
theorem dX4_chanceOf_17 : decode cX4_chanceOf 17 = .ok (.aload_n 0, 1) := by decide +kernel
theorem dX4_chanceOf_18 : decode cX4_chanceOf 18 = .ok (.getfield 12, 3) := by decide +kernel
theorem dX4_chanceOf_21 : decode cX4_chanceOf 21 = .ok (.getfield 87, 3) := by decide +kernel
theorem dX4_chanceOf_24 : decode cX4_chanceOf 24 = .ok (.iload 4, 2) := by decide +kernel
theorem dX4_chanceOf_26 : decode cX4_chanceOf 26 = .ok (.aaload, 1) := by decide +kernel
theorem dX4_chanceOf_27 : decode cX4_chanceOf 27 = .ok (.iconst 3, 1) := by decide +kernel
theorem dX4_chanceOf_28 : decode cX4_chanceOf 28 = .ok (.iaload, 1) := by decide +kernel
theorem dX4_chanceOf_29 : decode cX4_chanceOf 29 = .ok (.istore 5, 2) := by decide +kernel
theorem dX4_chanceOf_31 : decode cX4_chanceOf 31 = .ok (.lload_n 2, 1) := by decide +kernel
theorem dX4_chanceOf_32 : decode cX4_chanceOf 32 = .ok (.iload_n 1, 1) := by decide +kernel
theorem dX4_chanceOf_33 : decode cX4_chanceOf 33 = .ok (.iload 4, 2) := by decide +kernel
theorem dX4_chanceOf_35 : decode cX4_chanceOf 35 = .ok (.ishr, 1) := by decide +kernel
theorem dX4_chanceOf_36 : decode cX4_chanceOf 36 = .ok (.iconst 1, 1) := by decide +kernel
theorem dX4_chanceOf_37 : decode cX4_chanceOf 37 = .ok (.iand, 1) := by decide +kernel
theorem dX4_chanceOf_38 : decode cX4_chanceOf 38 = .ok (.iconst 1, 1) := by decide +kernel
theorem dX4_chanceOf_39 : decode cX4_chanceOf 39 = .ok (.if_icmp .ne 9, 3) := by decide +kernel
theorem dX4_chanceOf_42 : decode cX4_chanceOf 42 = .ok (.iload 5, 2) := by decide +kernel
theorem dX4_chanceOf_44 : decode cX4_chanceOf 44 = .ok (.i2l, 1) := by decide +kernel
theorem dX4_chanceOf_45 : decode cX4_chanceOf 45 = .ok (.goto 9, 3) := by decide +kernel
theorem dX4_chanceOf_48 : decode cX4_chanceOf 48 = .ok (.bipush 10, 2) := by decide +kernel
theorem dX4_chanceOf_50 : decode cX4_chanceOf 50 = .ok (.iload 5, 2) := by decide +kernel
theorem dX4_chanceOf_52 : decode cX4_chanceOf 52 = .ok (.isub, 1) := by decide +kernel
theorem dX4_chanceOf_53 : decode cX4_chanceOf 53 = .ok (.i2l, 1) := by decide +kernel
theorem dX4_chanceOf_54 : decode cX4_chanceOf 54 = .ok (.lmul, 1) := by decide +kernel
theorem dX4_chanceOf_55 : decode cX4_chanceOf 55 = .ok (.lstore_n 2, 1) := by decide +kernel
theorem dX4_chanceOf_56 : decode cX4_chanceOf 56 = .ok (.iinc 4 1, 3) := by decide +kernel
theorem dX4_chanceOf_59 : decode cX4_chanceOf 59 = .ok (.goto (-54), 3) := by decide +kernel
theorem dX4_chanceOf_62 : decode cX4_chanceOf 62 = .ok (.lload_n 2, 1) := by decide +kernel
theorem dX4_chanceOf_63 : decode cX4_chanceOf 63 = .ok (.lreturn, 1) := by decide +kernel
theorem dX4_valueIfThereCome_0 : decode cX4_valueIfThereCome 0 = .ok (.aload_n 0, 1) := by decide +kernel
theorem dX4_valueIfThereCome_1 : decode cX4_valueIfThereCome 1 = .ok (.invokevirtual 124, 3) := by decide +kernel
theorem dX4_valueIfThereCome_4 : decode cX4_valueIfThereCome 4 = .ok (.iconst 0, 1) := by decide +kernel
theorem dX4_valueIfThereCome_5 : decode cX4_valueIfThereCome 5 = .ok (.istore_n 2, 1) := by decide +kernel
theorem dX4_valueIfThereCome_6 : decode cX4_valueIfThereCome 6 = .ok (.iload_n 2, 1) := by decide +kernel
theorem dX4_valueIfThereCome_7 : decode cX4_valueIfThereCome 7 = .ok (.aload_n 0, 1) := by decide +kernel
theorem dX4_valueIfThereCome_8 : decode cX4_valueIfThereCome 8 = .ok (.getfield 12, 3) := by decide +kernel
theorem dX4_valueIfThereCome_11 : decode cX4_valueIfThereCome 11 = .ok (.getfield 164, 3) := by decide +kernel
theorem dX4_valueIfThereCome_14 : decode cX4_valueIfThereCome 14 = .ok (.if_icmp .ge 29, 3) := by decide +kernel
theorem dX4_valueIfThereCome_17 : decode cX4_valueIfThereCome 17 = .ok (.iload_n 1, 1) := by decide +kernel
theorem dX4_valueIfThereCome_18 : decode cX4_valueIfThereCome 18 = .ok (.iload_n 2, 1) := by decide +kernel
theorem dX4_valueIfThereCome_19 : decode cX4_valueIfThereCome 19 = .ok (.ishr, 1) := by decide +kernel
theorem dX4_valueIfThereCome_20 : decode cX4_valueIfThereCome 20 = .ok (.iconst 1, 1) := by decide +kernel
theorem dX4_valueIfThereCome_21 : decode cX4_valueIfThereCome 21 = .ok (.iand, 1) := by decide +kernel
theorem dX4_valueIfThereCome_22 : decode cX4_valueIfThereCome 22 = .ok (.ifCond .ne 15, 3) := by decide +kernel
theorem dX4_valueIfThereCome_25 : decode cX4_valueIfThereCome 25 = .ok (.aload_n 0, 1) := by decide +kernel
theorem dX4_valueIfThereCome_26 : decode cX4_valueIfThereCome 26 = .ok (.getfield 19, 3) := by decide +kernel
theorem dX4_valueIfThereCome_29 : decode cX4_valueIfThereCome 29 = .ok (.getfield 87, 3) := by decide +kernel
theorem dX4_valueIfThereCome_32 : decode cX4_valueIfThereCome 32 = .ok (.iload_n 2, 1) := by decide +kernel
theorem dX4_valueIfThereCome_33 : decode cX4_valueIfThereCome 33 = .ok (.aaload, 1) := by decide +kernel
theorem dX4_valueIfThereCome_34 : decode cX4_valueIfThereCome 34 = .ok (.iconst 1, 1) := by decide +kernel
theorem dX4_valueIfThereCome_35 : decode cX4_valueIfThereCome 35 = .ok (.iconst 0, 1) := by decide +kernel
theorem dX4_valueIfThereCome_36 : decode cX4_valueIfThereCome 36 = .ok (.iastore, 1) := by decide +kernel
theorem dX4_valueIfThereCome_37 : decode cX4_valueIfThereCome 37 = .ok (.iinc 2 1, 3) := by decide +kernel
theorem dX4_valueIfThereCome_40 : decode cX4_valueIfThereCome 40 = .ok (.goto (-34), 3) := by decide +kernel
theorem dX4_valueIfThereCome_43 : decode cX4_valueIfThereCome 43 = .ok (.aload_n 0, 1) := by decide +kernel
theorem dX4_valueIfThereCome_44 : decode cX4_valueIfThereCome 44 = .ok (.iconst 1, 1) := by decide +kernel
theorem dX4_valueIfThereCome_45 : decode cX4_valueIfThereCome 45 = .ok (.invokevirtual 127, 3) := by decide +kernel
theorem dX4_valueIfThereCome_48 : decode cX4_valueIfThereCome 48 = .ok (.ireturn, 1) := by decide +kernel
theorem dX4_greatestDivisor_0 : decode cX4_greatestDivisor 0 = .ok (.lload_n 0, 1) := by decide +kernel
theorem dX4_greatestDivisor_1 : decode cX4_greatestDivisor 1 = .ok (.lstore 4, 2) := by decide +kernel
theorem dX4_greatestDivisor_3 : decode cX4_greatestDivisor 3 = .ok (.lload_n 2, 1) := by decide +kernel
theorem dX4_greatestDivisor_4 : decode cX4_greatestDivisor 4 = .ok (.lstore 6, 2) := by decide +kernel
theorem dX4_greatestDivisor_6 : decode cX4_greatestDivisor 6 = .ok (.iconst 0, 1) := by decide +kernel
theorem dX4_greatestDivisor_7 : decode cX4_greatestDivisor 7 = .ok (.istore 8, 2) := by decide +kernel
theorem dX4_greatestDivisor_9 : decode cX4_greatestDivisor 9 = .ok (.iload 8, 2) := by decide +kernel
theorem dX4_greatestDivisor_11 : decode cX4_greatestDivisor 11 = .ok (.sipush 1000, 3) := by decide +kernel
theorem dX4_greatestDivisor_14 : decode cX4_greatestDivisor 14 = .ok (.if_icmp .ge 31, 3) := by decide +kernel
theorem dX4_greatestDivisor_17 : decode cX4_greatestDivisor 17 = .ok (.lload 6, 2) := by decide +kernel
theorem dX4_greatestDivisor_19 : decode cX4_greatestDivisor 19 = .ok (.lconst 0, 1) := by decide +kernel
theorem dX4_greatestDivisor_20 : decode cX4_greatestDivisor 20 = .ok (.lcmp, 1) := by decide +kernel
theorem dX4_greatestDivisor_21 : decode cX4_greatestDivisor 21 = .ok (.ifCond .eq 24, 3) := by decide +kernel
theorem dX4_greatestDivisor_24 : decode cX4_greatestDivisor 24 = .ok (.lload 4, 2) := by decide +kernel
theorem dX4_greatestDivisor_26 : decode cX4_greatestDivisor 26 = .ok (.lload 6, 2) := by decide +kernel
theorem dX4_greatestDivisor_28 : decode cX4_greatestDivisor 28 = .ok (.lrem, 1) := by decide +kernel
theorem dX4_greatestDivisor_29 : decode cX4_greatestDivisor 29 = .ok (.lstore 9, 2) := by decide +kernel
theorem dX4_greatestDivisor_31 : decode cX4_greatestDivisor 31 = .ok (.lload 6, 2) := by decide +kernel
theorem dX4_greatestDivisor_33 : decode cX4_greatestDivisor 33 = .ok (.lstore 4, 2) := by decide +kernel
theorem dX4_greatestDivisor_35 : decode cX4_greatestDivisor 35 = .ok (.lload 9, 2) := by decide +kernel
theorem dX4_greatestDivisor_37 : decode cX4_greatestDivisor 37 = .ok (.lstore 6, 2) := by decide +kernel
theorem dX4_greatestDivisor_39 : decode cX4_greatestDivisor 39 = .ok (.iinc 8 1, 3) := by decide +kernel
theorem dX4_greatestDivisor_42 : decode cX4_greatestDivisor 42 = .ok (.goto (-33), 3) := by decide +kernel
theorem dX4_greatestDivisor_45 : decode cX4_greatestDivisor 45 = .ok (.lconst 1, 1) := by decide +kernel
theorem dX4_greatestDivisor_46 : decode cX4_greatestDivisor 46 = .ok (.lload 4, 2) := by decide +kernel
theorem dX4_greatestDivisor_48 : decode cX4_greatestDivisor 48 = .ok (.invokestatic 233, 3) := by decide +kernel
theorem dX4_greatestDivisor_51 : decode cX4_greatestDivisor 51 = .ok (.lreturn, 1) := by decide +kernel
theorem dX4_shareOne_0 : decode cX4_shareOne 0 = .ok (.bipush 80, 2) := by decide +kernel
theorem dX4_shareOne_2 : decode cX4_shareOne 2 = .ok (.istore_n 2, 1) := by decide +kernel
theorem dX4_shareOne_3 : decode cX4_shareOne 3 = .ok (.iload_n 2, 1) := by decide +kernel
theorem dX4_shareOne_4 : decode cX4_shareOne 4 = .ok (.ifCond .le 121, 3) := by decide +kernel
theorem dX4_shareOne_7 : decode cX4_shareOne 7 = .ok (.iconst 0, 1) := by decide +kernel
theorem dX4_shareOne_8 : decode cX4_shareOne 8 = .ok (.istore_n 3, 1) := by decide +kernel
theorem dX4_shareOne_9 : decode cX4_shareOne 9 = .ok (.iload_n 3, 1) := by decide +kernel
theorem dX4_shareOne_10 : decode cX4_shareOne 10 = .ok (.aload_n 0, 1) := by decide +kernel
theorem dX4_shareOne_11 : decode cX4_shareOne 11 = .ok (.getfield 12, 3) := by decide +kernel
theorem dX4_shareOne_14 : decode cX4_shareOne 14 = .ok (.getfield 164, 3) := by decide +kernel
theorem dX4_shareOne_17 : decode cX4_shareOne 17 = .ok (.if_icmp .ge 102, 3) := by decide +kernel
theorem dX4_shareOne_20 : decode cX4_shareOne 20 = .ok (.iload_n 2, 1) := by decide +kernel
theorem dX4_shareOne_21 : decode cX4_shareOne 21 = .ok (.getstatic 236, 3) := by decide +kernel
theorem dX4_shareOne_24 : decode cX4_shareOne 24 = .ok (.iload_n 3, 1) := by decide +kernel
theorem dX4_shareOne_25 : decode cX4_shareOne 25 = .ok (.iaload, 1) := by decide +kernel
theorem dX4_shareOne_26 : decode cX4_shareOne 26 = .ok (.idiv, 1) := by decide +kernel
theorem dX4_shareOne_27 : decode cX4_shareOne 27 = .ok (.iconst 3, 1) := by decide +kernel
theorem dX4_shareOne_28 : decode cX4_shareOne 28 = .ok (.irem, 1) := by decide +kernel
theorem dX4_shareOne_29 : decode cX4_shareOne 29 = .ok (.ifCond .le 7, 3) := by decide +kernel
theorem dX4_shareOne_32 : decode cX4_shareOne 32 = .ok (.iconst 1, 1) := by decide +kernel
theorem dX4_shareOne_33 : decode cX4_shareOne 33 = .ok (.goto 4, 3) := by decide +kernel
theorem dX4_shareOne_36 : decode cX4_shareOne 36 = .ok (.iconst 0, 1) := by decide +kernel
theorem dX4_shareOne_37 : decode cX4_shareOne 37 = .ok (.istore 4, 2) := by decide +kernel
theorem dX4_shareOne_39 : decode cX4_shareOne 39 = .ok (.iload 4, 2) := by decide +kernel
theorem dX4_shareOne_41 : decode cX4_shareOne 41 = .ok (.ifCond .eq 18, 3) := by decide +kernel
theorem dX4_shareOne_44 : decode cX4_shareOne 44 = .ok (.aload_n 0, 1) := by decide +kernel
theorem dX4_shareOne_45 : decode cX4_shareOne 45 = .ok (.getfield 50, 3) := by decide +kernel
theorem dX4_shareOne_48 : decode cX4_shareOne 48 = .ok (.iload_n 2, 1) := by decide +kernel
theorem dX4_shareOne_49 : decode cX4_shareOne 49 = .ok (.getstatic 236, 3) := by decide +kernel
theorem dX4_shareOne_52 : decode cX4_shareOne 52 = .ok (.iload_n 3, 1) := by decide +kernel
theorem dX4_shareOne_53 : decode cX4_shareOne 53 = .ok (.iaload, 1) := by decide +kernel
theorem dX4_shareOne_54 : decode cX4_shareOne 54 = .ok (.isub, 1) := by decide +kernel
theorem dX4_shareOne_55 : decode cX4_shareOne 55 = .ok (.iaload, 1) := by decide +kernel
theorem dX4_shareOne_56 : decode cX4_shareOne 56 = .ok (.goto 4, 3) := by decide +kernel
theorem dX4_shareOne_59 : decode cX4_shareOne 59 = .ok (.iconst (-1), 1) := by decide +kernel
theorem dX4_shareOne_60 : decode cX4_shareOne 60 = .ok (.istore 5, 2) := by decide +kernel
theorem dX4_shareOne_62 : decode cX4_shareOne 62 = .ok (.iload 5, 2) := by decide +kernel
theorem dX4_shareOne_64 : decode cX4_shareOne 64 = .ok (.iconst (-1), 1) := by decide +kernel
theorem dX4_shareOne_65 : decode cX4_shareOne 65 = .ok (.if_icmp .ne 6, 3) := by decide +kernel
theorem dX4_shareOne_68 : decode cX4_shareOne 68 = .ok (.goto 45, 3) := by decide +kernel
theorem dX4_shareOne_71 : decode cX4_shareOne 71 = .ok (.aload_n 0, 1) := by decide +kernel
theorem dX4_shareOne_72 : decode cX4_shareOne 72 = .ok (.getfield 12, 3) := by decide +kernel
theorem dX4_shareOne_75 : decode cX4_shareOne 75 = .ok (.iload_n 3, 1) := by decide +kernel
theorem dX4_shareOne_76 : decode cX4_shareOne 76 = .ok (.iload_n 1, 1) := by decide +kernel
theorem dX4_shareOne_77 : decode cX4_shareOne 77 = .ok (.invokevirtual 106, 3) := by decide +kernel
theorem dX4_shareOne_80 : decode cX4_shareOne 80 = .ok (.istore 6, 2) := by decide +kernel
theorem dX4_shareOne_82 : decode cX4_shareOne 82 = .ok (.iload 6, 2) := by decide +kernel
theorem dX4_shareOne_84 : decode cX4_shareOne 84 = .ok (.iconst (-1), 1) := by decide +kernel
theorem dX4_shareOne_85 : decode cX4_shareOne 85 = .ok (.if_icmp .eq 28, 3) := by decide +kernel
theorem dX4_shareOne_88 : decode cX4_shareOne 88 = .ok (.iload 5, 2) := by decide +kernel
theorem dX4_shareOne_90 : decode cX4_shareOne 90 = .ok (.iload 6, 2) := by decide +kernel
theorem dX4_shareOne_92 : decode cX4_shareOne 92 = .ok (.iadd, 1) := by decide +kernel
theorem dX4_shareOne_93 : decode cX4_shareOne 93 = .ok (.aload_n 0, 1) := by decide +kernel
theorem dX4_shareOne_94 : decode cX4_shareOne 94 = .ok (.getfield 50, 3) := by decide +kernel
theorem dX4_shareOne_97 : decode cX4_shareOne 97 = .ok (.iload_n 2, 1) := by decide +kernel
theorem dX4_shareOne_98 : decode cX4_shareOne 98 = .ok (.iaload, 1) := by decide +kernel
theorem dX4_shareOne_99 : decode cX4_shareOne 99 = .ok (.if_icmp .le 14, 3) := by decide +kernel
theorem dX4_shareOne_102 : decode cX4_shareOne 102 = .ok (.aload_n 0, 1) := by decide +kernel
theorem dX4_shareOne_103 : decode cX4_shareOne 103 = .ok (.getfield 50, 3) := by decide +kernel
theorem dX4_shareOne_106 : decode cX4_shareOne 106 = .ok (.iload_n 2, 1) := by decide +kernel
theorem dX4_shareOne_107 : decode cX4_shareOne 107 = .ok (.iload 5, 2) := by decide +kernel
theorem dX4_shareOne_109 : decode cX4_shareOne 109 = .ok (.iload 6, 2) := by decide +kernel
theorem dX4_shareOne_111 : decode cX4_shareOne 111 = .ok (.iadd, 1) := by decide +kernel
theorem dX4_shareOne_112 : decode cX4_shareOne 112 = .ok (.iastore, 1) := by decide +kernel
theorem dX4_shareOne_113 : decode cX4_shareOne 113 = .ok (.iinc 3 1, 3) := by decide +kernel
theorem dX4_shareOne_116 : decode cX4_shareOne 116 = .ok (.goto (-107), 3) := by decide +kernel
theorem dX4_shareOne_119 : decode cX4_shareOne 119 = .ok (.iinc 2 (-1), 3) := by decide +kernel
theorem dX4_shareOne_122 : decode cX4_shareOne 122 = .ok (.goto (-119), 3) := by decide +kernel
theorem dX4_shareOne_125 : decode cX4_shareOne 125 = .ok (.return_, 1) := by decide +kernel
theorem dX4_openBottle_0 : decode cX4_openBottle 0 = .ok (.bipush 63, 2) := by decide +kernel
theorem dX4_openBottle_2 : decode cX4_openBottle 2 = .ok (.istore 4, 2) := by decide +kernel
theorem dX4_openBottle_4 : decode cX4_openBottle 4 = .ok (.iload 4, 2) := by decide +kernel
theorem dX4_openBottle_6 : decode cX4_openBottle 6 = .ok (.ifCond .le 96, 3) := by decide +kernel
theorem dX4_openBottle_9 : decode cX4_openBottle 9 = .ok (.iload_n 1, 1) := by decide +kernel
theorem dX4_openBottle_10 : decode cX4_openBottle 10 = .ok (.istore 5, 2) := by decide +kernel
theorem dX4_openBottle_12 : decode cX4_openBottle 12 = .ok (.iload 5, 2) := by decide +kernel
theorem dX4_openBottle_14 : decode cX4_openBottle 14 = .ok (.iload_n 2, 1) := by decide +kernel
theorem dX4_openBottle_15 : decode cX4_openBottle 15 = .ok (.if_icmp .gt 81, 3) := by decide +kernel
theorem dX4_openBottle_18 : decode cX4_openBottle 18 = .ok (.iload 4, 2) := by decide +kernel
theorem dX4_openBottle_20 : decode cX4_openBottle 20 = .ok (.iload 5, 2) := by decide +kernel
theorem dX4_openBottle_22 : decode cX4_openBottle 22 = .ok (.ishr, 1) := by decide +kernel
theorem dX4_openBottle_23 : decode cX4_openBottle 23 = .ok (.iconst 1, 1) := by decide +kernel
theorem dX4_openBottle_24 : decode cX4_openBottle 24 = .ok (.iand, 1) := by decide +kernel
theorem dX4_openBottle_25 : decode cX4_openBottle 25 = .ok (.iconst 1, 1) := by decide +kernel
theorem dX4_openBottle_26 : decode cX4_openBottle 26 = .ok (.if_icmp .ne 7, 3) := by decide +kernel
theorem dX4_openBottle_29 : decode cX4_openBottle 29 = .ok (.iconst 1, 1) := by decide +kernel
theorem dX4_openBottle_30 : decode cX4_openBottle 30 = .ok (.goto 4, 3) := by decide +kernel
theorem dX4_openBottle_33 : decode cX4_openBottle 33 = .ok (.iconst 0, 1) := by decide +kernel
theorem dX4_openBottle_34 : decode cX4_openBottle 34 = .ok (.istore 6, 2) := by decide +kernel
theorem dX4_openBottle_36 : decode cX4_openBottle 36 = .ok (.iload 6, 2) := by decide +kernel
theorem dX4_openBottle_38 : decode cX4_openBottle 38 = .ok (.ifCond .eq 18, 3) := by decide +kernel
theorem dX4_openBottle_41 : decode cX4_openBottle 41 = .ok (.aload_n 0, 1) := by decide +kernel
theorem dX4_openBottle_42 : decode cX4_openBottle 42 = .ok (.getfield 53, 3) := by decide +kernel
theorem dX4_openBottle_45 : decode cX4_openBottle 45 = .ok (.iload 4, 2) := by decide +kernel
theorem dX4_openBottle_47 : decode cX4_openBottle 47 = .ok (.iconst 1, 1) := by decide +kernel
theorem dX4_openBottle_48 : decode cX4_openBottle 48 = .ok (.iload 5, 2) := by decide +kernel
theorem dX4_openBottle_50 : decode cX4_openBottle 50 = .ok (.ishl, 1) := by decide +kernel
theorem dX4_openBottle_51 : decode cX4_openBottle 51 = .ok (.isub, 1) := by decide +kernel
theorem dX4_openBottle_52 : decode cX4_openBottle 52 = .ok (.iaload, 1) := by decide +kernel
theorem dX4_openBottle_53 : decode cX4_openBottle 53 = .ok (.goto 4, 3) := by decide +kernel
theorem dX4_openBottle_56 : decode cX4_openBottle 56 = .ok (.iconst (-1), 1) := by decide +kernel
theorem dX4_openBottle_57 : decode cX4_openBottle 57 = .ok (.istore 7, 2) := by decide +kernel
theorem dX4_openBottle_59 : decode cX4_openBottle 59 = .ok (.iload 7, 2) := by decide +kernel
theorem dX4_openBottle_61 : decode cX4_openBottle 61 = .ok (.iconst (-1), 1) := by decide +kernel
theorem dX4_openBottle_62 : decode cX4_openBottle 62 = .ok (.if_icmp .eq 28, 3) := by decide +kernel
theorem dX4_openBottle_65 : decode cX4_openBottle 65 = .ok (.iload 7, 2) := by decide +kernel
theorem dX4_openBottle_67 : decode cX4_openBottle 67 = .ok (.iload_n 3, 1) := by decide +kernel
theorem dX4_openBottle_68 : decode cX4_openBottle 68 = .ok (.iadd, 1) := by decide +kernel
theorem dX4_openBottle_69 : decode cX4_openBottle 69 = .ok (.aload_n 0, 1) := by decide +kernel
theorem dX4_openBottle_70 : decode cX4_openBottle 70 = .ok (.getfield 53, 3) := by decide +kernel
theorem dX4_openBottle_73 : decode cX4_openBottle 73 = .ok (.iload 4, 2) := by decide +kernel
theorem dX4_openBottle_75 : decode cX4_openBottle 75 = .ok (.iaload, 1) := by decide +kernel
theorem dX4_openBottle_76 : decode cX4_openBottle 76 = .ok (.if_icmp .le 14, 3) := by decide +kernel
theorem dX4_openBottle_79 : decode cX4_openBottle 79 = .ok (.aload_n 0, 1) := by decide +kernel
theorem dX4_openBottle_80 : decode cX4_openBottle 80 = .ok (.getfield 53, 3) := by decide +kernel
theorem dX4_openBottle_83 : decode cX4_openBottle 83 = .ok (.iload 4, 2) := by decide +kernel
theorem dX4_openBottle_85 : decode cX4_openBottle 85 = .ok (.iload 7, 2) := by decide +kernel
theorem dX4_openBottle_87 : decode cX4_openBottle 87 = .ok (.iload_n 3, 1) := by decide +kernel
theorem dX4_openBottle_88 : decode cX4_openBottle 88 = .ok (.iadd, 1) := by decide +kernel
theorem dX4_openBottle_89 : decode cX4_openBottle 89 = .ok (.iastore, 1) := by decide +kernel
theorem dX4_openBottle_90 : decode cX4_openBottle 90 = .ok (.iinc 5 1, 3) := by decide +kernel
theorem dX4_openBottle_93 : decode cX4_openBottle 93 = .ok (.goto (-81), 3) := by decide +kernel
theorem dX4_openBottle_96 : decode cX4_openBottle 96 = .ok (.iinc 4 (-1), 3) := by decide +kernel
theorem dX4_openBottle_99 : decode cX4_openBottle 99 = .ok (.goto (-95), 3) := by decide +kernel
theorem dX4_openBottle_102 : decode cX4_openBottle 102 = .ok (.return_, 1) := by decide +kernel
theorem dX4_greatest_0 : decode cX4_greatest 0 = .ok (.iconst 0, 1) := by decide +kernel
theorem dX4_greatest_1 : decode cX4_greatest 1 = .ok (.istore_n 1, 1) := by decide +kernel
theorem dX4_greatest_2 : decode cX4_greatest 2 = .ok (.iconst 0, 1) := by decide +kernel
theorem dX4_greatest_3 : decode cX4_greatest 3 = .ok (.istore_n 2, 1) := by decide +kernel
theorem dX4_greatest_4 : decode cX4_greatest 4 = .ok (.iload_n 2, 1) := by decide +kernel
theorem dX4_greatest_5 : decode cX4_greatest 5 = .ok (.aload_n 0, 1) := by decide +kernel
theorem dX4_greatest_6 : decode cX4_greatest 6 = .ok (.arraylength, 1) := by decide +kernel
theorem dX4_greatest_7 : decode cX4_greatest 7 = .ok (.if_icmp .ge 17, 3) := by decide +kernel
theorem dX4_greatest_10 : decode cX4_greatest 10 = .ok (.iload_n 1, 1) := by decide +kernel
theorem dX4_greatest_11 : decode cX4_greatest 11 = .ok (.aload_n 0, 1) := by decide +kernel
theorem dX4_greatest_12 : decode cX4_greatest 12 = .ok (.iload_n 2, 1) := by decide +kernel
theorem dX4_greatest_13 : decode cX4_greatest 13 = .ok (.iaload, 1) := by decide +kernel
theorem dX4_greatest_14 : decode cX4_greatest 14 = .ok (.invokestatic 239, 3) := by decide +kernel
theorem dX4_greatest_17 : decode cX4_greatest 17 = .ok (.istore_n 1, 1) := by decide +kernel
theorem dX4_greatest_18 : decode cX4_greatest 18 = .ok (.iinc 2 1, 3) := by decide +kernel
theorem dX4_greatest_21 : decode cX4_greatest 21 = .ok (.goto (-17), 3) := by decide +kernel
theorem dX4_greatest_24 : decode cX4_greatest 24 = .ok (.iload_n 1, 1) := by decide +kernel
theorem dX4_greatest_25 : decode cX4_greatest 25 = .ok (.ireturn, 1) := by decide +kernel
theorem dX4_throwsAsInRow_0 : decode cX4_throwsAsInRow 0 = .ok (.aload_n 0, 1) := by decide +kernel
theorem dX4_throwsAsInRow_1 : decode cX4_throwsAsInRow 1 = .ok (.invokevirtual 124, 3) := by decide +kernel
theorem dX4_throwsAsInRow_4 : decode cX4_throwsAsInRow 4 = .ok (.aload_n 0, 1) := by decide +kernel
theorem dX4_throwsAsInRow_5 : decode cX4_throwsAsInRow 5 = .ok (.getfield 19, 3) := by decide +kernel
theorem dX4_throwsAsInRow_8 : decode cX4_throwsAsInRow 8 = .ok (.getfield 103, 3) := by decide +kernel
theorem dX4_throwsAsInRow_11 : decode cX4_throwsAsInRow 11 = .ok (.iconst 5, 1) := by decide +kernel
theorem dX4_throwsAsInRow_12 : decode cX4_throwsAsInRow 12 = .ok (.iload_n 1, 1) := by decide +kernel
theorem dX4_throwsAsInRow_13 : decode cX4_throwsAsInRow 13 = .ok (.iastore, 1) := by decide +kernel
theorem dX4_throwsAsInRow_14 : decode cX4_throwsAsInRow 14 = .ok (.iconst 0, 1) := by decide +kernel
theorem dX4_throwsAsInRow_15 : decode cX4_throwsAsInRow 15 = .ok (.istore_n 2, 1) := by decide +kernel
theorem dX4_throwsAsInRow_16 : decode cX4_throwsAsInRow 16 = .ok (.iload_n 2, 1) := by decide +kernel
theorem dX4_throwsAsInRow_17 : decode cX4_throwsAsInRow 17 = .ok (.aload_n 0, 1) := by decide +kernel
theorem dX4_throwsAsInRow_18 : decode cX4_throwsAsInRow 18 = .ok (.getfield 197, 3) := by decide +kernel
theorem dX4_throwsAsInRow_21 : decode cX4_throwsAsInRow 21 = .ok (.if_icmp .ge 35, 3) := by decide +kernel
theorem dX4_throwsAsInRow_24 : decode cX4_throwsAsInRow 24 = .ok (.aload_n 0, 1) := by decide +kernel
theorem dX4_throwsAsInRow_25 : decode cX4_throwsAsInRow 25 = .ok (.iconst 1, 1) := by decide +kernel
theorem dX4_throwsAsInRow_26 : decode cX4_throwsAsInRow 26 = .ok (.invokevirtual 127, 3) := by decide +kernel
theorem dX4_throwsAsInRow_29 : decode cX4_throwsAsInRow 29 = .ok (.pop, 1) := by decide +kernel
theorem dX4_throwsAsInRow_30 : decode cX4_throwsAsInRow 30 = .ok (.aload_n 0, 1) := by decide +kernel
theorem dX4_throwsAsInRow_31 : decode cX4_throwsAsInRow 31 = .ok (.getfield 25, 3) := by decide +kernel
theorem dX4_throwsAsInRow_34 : decode cX4_throwsAsInRow 34 = .ok (.getfield 121, 3) := by decide +kernel
theorem dX4_throwsAsInRow_37 : decode cX4_throwsAsInRow 37 = .ok (.iconst 3, 1) := by decide +kernel
theorem dX4_throwsAsInRow_38 : decode cX4_throwsAsInRow 38 = .ok (.iaload, 1) := by decide +kernel
theorem dX4_throwsAsInRow_39 : decode cX4_throwsAsInRow 39 = .ok (.aload_n 0, 1) := by decide +kernel
theorem dX4_throwsAsInRow_40 : decode cX4_throwsAsInRow 40 = .ok (.getfield 43, 3) := by decide +kernel
theorem dX4_throwsAsInRow_43 : decode cX4_throwsAsInRow 43 = .ok (.iload_n 2, 1) := by decide +kernel
theorem dX4_throwsAsInRow_44 : decode cX4_throwsAsInRow 44 = .ok (.iaload, 1) := by decide +kernel
theorem dX4_throwsAsInRow_45 : decode cX4_throwsAsInRow 45 = .ok (.if_icmp .eq 5, 3) := by decide +kernel
theorem dX4_throwsAsInRow_48 : decode cX4_throwsAsInRow 48 = .ok (.iconst 0, 1) := by decide +kernel
theorem dX4_throwsAsInRow_49 : decode cX4_throwsAsInRow 49 = .ok (.ireturn, 1) := by decide +kernel
theorem dX4_throwsAsInRow_50 : decode cX4_throwsAsInRow 50 = .ok (.iinc 2 1, 3) := by decide +kernel
theorem dX4_throwsAsInRow_53 : decode cX4_throwsAsInRow 53 = .ok (.goto (-37), 3) := by decide +kernel
theorem dX4_throwsAsInRow_56 : decode cX4_throwsAsInRow 56 = .ok (.iconst 1, 1) := by decide +kernel
theorem dX4_throwsAsInRow_57 : decode cX4_throwsAsInRow 57 = .ok (.ireturn, 1) := by decide +kernel
theorem dX4_firstNotEatenToday_0 : decode cX4_firstNotEatenToday 0 = .ok (.aload_n 0, 1) := by decide +kernel
theorem dX4_firstNotEatenToday_1 : decode cX4_firstNotEatenToday 1 = .ok (.invokevirtual 124, 3) := by decide +kernel
theorem dX4_firstNotEatenToday_4 : decode cX4_firstNotEatenToday 4 = .ok (.aload_n 0, 1) := by decide +kernel
theorem dX4_firstNotEatenToday_5 : decode cX4_firstNotEatenToday 5 = .ok (.iconst 1, 1) := by decide +kernel
theorem dX4_firstNotEatenToday_6 : decode cX4_firstNotEatenToday 6 = .ok (.invokevirtual 127, 3) := by decide +kernel
theorem dX4_firstNotEatenToday_9 : decode cX4_firstNotEatenToday 9 = .ok (.pop, 1) := by decide +kernel
theorem dX4_firstNotEatenToday_10 : decode cX4_firstNotEatenToday 10 = .ok (.iconst 0, 1) := by decide +kernel
theorem dX4_firstNotEatenToday_11 : decode cX4_firstNotEatenToday 11 = .ok (.istore_n 1, 1) := by decide +kernel
theorem dX4_firstNotEatenToday_12 : decode cX4_firstNotEatenToday 12 = .ok (.iload_n 1, 1) := by decide +kernel
theorem dX4_firstNotEatenToday_13 : decode cX4_firstNotEatenToday 13 = .ok (.aload_n 0, 1) := by decide +kernel
theorem dX4_firstNotEatenToday_14 : decode cX4_firstNotEatenToday 14 = .ok (.getfield 197, 3) := by decide +kernel
theorem dX4_firstNotEatenToday_17 : decode cX4_firstNotEatenToday 17 = .ok (.if_icmp .ge 40, 3) := by decide +kernel
theorem dX4_firstNotEatenToday_20 : decode cX4_firstNotEatenToday 20 = .ok (.iload_n 1, 1) := by decide +kernel
theorem dX4_firstNotEatenToday_21 : decode cX4_firstNotEatenToday 21 = .ok (.aload_n 0, 1) := by decide +kernel
theorem dX4_firstNotEatenToday_22 : decode cX4_firstNotEatenToday 22 = .ok (.getfield 25, 3) := by decide +kernel
theorem dX4_firstNotEatenToday_25 : decode cX4_firstNotEatenToday 25 = .ok (.getfield 241, 3) := by decide +kernel
theorem dX4_firstNotEatenToday_28 : decode cX4_firstNotEatenToday 28 = .ok (.if_icmp .ge 21, 3) := by decide +kernel
theorem dX4_firstNotEatenToday_31 : decode cX4_firstNotEatenToday 31 = .ok (.aload_n 0, 1) := by decide +kernel
theorem dX4_firstNotEatenToday_32 : decode cX4_firstNotEatenToday 32 = .ok (.getfield 25, 3) := by decide +kernel
theorem dX4_firstNotEatenToday_35 : decode cX4_firstNotEatenToday 35 = .ok (.getfield 244, 3) := by decide +kernel
theorem dX4_firstNotEatenToday_38 : decode cX4_firstNotEatenToday 38 = .ok (.iload_n 1, 1) := by decide +kernel
theorem dX4_firstNotEatenToday_39 : decode cX4_firstNotEatenToday 39 = .ok (.iaload, 1) := by decide +kernel
theorem dX4_firstNotEatenToday_40 : decode cX4_firstNotEatenToday 40 = .ok (.aload_n 0, 1) := by decide +kernel
theorem dX4_firstNotEatenToday_41 : decode cX4_firstNotEatenToday 41 = .ok (.getfield 43, 3) := by decide +kernel
theorem dX4_firstNotEatenToday_44 : decode cX4_firstNotEatenToday 44 = .ok (.iload_n 1, 1) := by decide +kernel
theorem dX4_firstNotEatenToday_45 : decode cX4_firstNotEatenToday 45 = .ok (.iaload, 1) := by decide +kernel
theorem dX4_firstNotEatenToday_46 : decode cX4_firstNotEatenToday 46 = .ok (.if_icmp .eq 5, 3) := by decide +kernel
theorem dX4_firstNotEatenToday_49 : decode cX4_firstNotEatenToday 49 = .ok (.iload_n 1, 1) := by decide +kernel
theorem dX4_firstNotEatenToday_50 : decode cX4_firstNotEatenToday 50 = .ok (.ireturn, 1) := by decide +kernel
theorem dX4_firstNotEatenToday_51 : decode cX4_firstNotEatenToday 51 = .ok (.iinc 1 1, 3) := by decide +kernel
theorem dX4_firstNotEatenToday_54 : decode cX4_firstNotEatenToday 54 = .ok (.goto (-42), 3) := by decide +kernel
theorem dX4_firstNotEatenToday_57 : decode cX4_firstNotEatenToday 57 = .ok (.bipush (-9), 2) := by decide +kernel
theorem dX4_firstNotEatenToday_59 : decode cX4_firstNotEatenToday 59 = .ok (.ireturn, 1) := by decide +kernel
theorem dX4_draw_0 : decode cX4_draw 0 = .ok (.iload_n 1, 1) := by decide +kernel
theorem dX4_draw_1 : decode cX4_draw 1 = .ok (.iconst 1, 1) := by decide +kernel
theorem dX4_draw_2 : decode cX4_draw 2 = .ok (.if_icmp .ge 7, 3) := by decide +kernel
theorem dX4_draw_5 : decode cX4_draw 5 = .ok (.iconst 0, 1) := by decide +kernel
theorem dX4_draw_6 : decode cX4_draw 6 = .ok (.goto 13, 3) := by decide +kernel
theorem dX4_draw_9 : decode cX4_draw 9 = .ok (.iload_n 0, 1) := by decide +kernel
theorem dX4_draw_10 : decode cX4_draw 10 = .ok (.ldc 247, 2) := by decide +kernel
theorem dX4_draw_12 : decode cX4_draw 12 = .ok (.iand, 1) := by decide +kernel
theorem dX4_draw_13 : decode cX4_draw 13 = .ok (.sipush 256, 3) := by decide +kernel
theorem dX4_draw_16 : decode cX4_draw 16 = .ok (.idiv, 1) := by decide +kernel
theorem dX4_draw_17 : decode cX4_draw 17 = .ok (.iload_n 1, 1) := by decide +kernel
theorem dX4_draw_18 : decode cX4_draw 18 = .ok (.irem, 1) := by decide +kernel
theorem dX4_draw_19 : decode cX4_draw 19 = .ok (.ireturn, 1) := by decide +kernel
end
section
theorem dX5_no_0 : decode cX5_no 0 = .ok (.aload_n 0, 1) := by decide +kernel
theorem dX5_no_1 : decode cX5_no 1 = .ok (.getfield 1, 3) := by decide +kernel
theorem dX5_no_4 : decode cX5_no 4 = .ok (.iload_n 1, 1) := by decide +kernel
theorem dX5_no_5 : decode cX5_no 5 = .ok (.ineg, 1) := by decide +kernel
theorem dX5_no_6 : decode cX5_no 6 = .ok (.dup2, 1) := by decide +kernel
theorem dX5_no_7 : decode cX5_no 7 = .ok (.iaload, 1) := by decide +kernel
theorem dX5_no_8 : decode cX5_no 8 = .ok (.iconst 1, 1) := by decide +kernel
theorem dX5_no_9 : decode cX5_no 9 = .ok (.iadd, 1) := by decide +kernel
theorem dX5_no_10 : decode cX5_no 10 = .ok (.iastore, 1) := by decide +kernel
theorem dX5_no_11 : decode cX5_no 11 = .ok (.iload_n 1, 1) := by decide +kernel
theorem dX5_no_12 : decode cX5_no 12 = .ok (.ireturn, 1) := by decide +kernel
theorem dX5_init_0 : decode cX5_init 0 = .ok (.aload_n 0, 1) := by decide +kernel
theorem dX5_init_1 : decode cX5_init 1 = .ok (.invokespecial 7, 3) := by decide +kernel
theorem dX5_init_4 : decode cX5_init 4 = .ok (.aload_n 0, 1) := by decide +kernel
theorem dX5_init_5 : decode cX5_init 5 = .ok (.bipush 7, 2) := by decide +kernel
theorem dX5_init_7 : decode cX5_init 7 = .ok (.newarray .int, 2) := by decide +kernel
theorem dX5_init_9 : decode cX5_init 9 = .ok (.putfield 1, 3) := by decide +kernel
theorem dX5_init_12 : decode cX5_init 12 = .ok (.aload_n 0, 1) := by decide +kernel
theorem dX5_init_13 : decode cX5_init 13 = .ok (.bipush 46, 2) := by decide +kernel
theorem dX5_init_15 : decode cX5_init 15 = .ok (.newarray .int, 2) := by decide +kernel
theorem dX5_init_17 : decode cX5_init 17 = .ok (.putfield 13, 3) := by decide +kernel
theorem dX5_init_20 : decode cX5_init 20 = .ok (.aload_n 0, 1) := by decide +kernel
theorem dX5_init_21 : decode cX5_init 21 = .ok (.bipush 46, 2) := by decide +kernel
theorem dX5_init_23 : decode cX5_init 23 = .ok (.newarray .int, 2) := by decide +kernel
theorem dX5_init_25 : decode cX5_init 25 = .ok (.putfield 16, 3) := by decide +kernel
theorem dX5_init_28 : decode cX5_init 28 = .ok (.aload_n 0, 1) := by decide +kernel
theorem dX5_init_29 : decode cX5_init 29 = .ok (.bipush 46, 2) := by decide +kernel
theorem dX5_init_31 : decode cX5_init 31 = .ok (.newarray .int, 2) := by decide +kernel
theorem dX5_init_33 : decode cX5_init 33 = .ok (.putfield 19, 3) := by decide +kernel
theorem dX5_init_36 : decode cX5_init 36 = .ok (.aload_n 0, 1) := by decide +kernel
theorem dX5_init_37 : decode cX5_init 37 = .ok (.iconst 4, 1) := by decide +kernel
theorem dX5_init_38 : decode cX5_init 38 = .ok (.newarray .int, 2) := by decide +kernel
theorem dX5_init_40 : decode cX5_init 40 = .ok (.putfield 22, 3) := by decide +kernel
theorem dX5_init_43 : decode cX5_init 43 = .ok (.aload_n 0, 1) := by decide +kernel
theorem dX5_init_44 : decode cX5_init 44 = .ok (.bipush 60, 2) := by decide +kernel
theorem dX5_init_46 : decode cX5_init 46 = .ok (.newarray .int, 2) := by decide +kernel
theorem dX5_init_48 : decode cX5_init 48 = .ok (.putfield 25, 3) := by decide +kernel
theorem dX5_init_51 : decode cX5_init 51 = .ok (.aload_n 0, 1) := by decide +kernel
theorem dX5_init_52 : decode cX5_init 52 = .ok (.bipush 6, 2) := by decide +kernel
theorem dX5_init_54 : decode cX5_init 54 = .ok (.newarray .int, 2) := by decide +kernel
theorem dX5_init_56 : decode cX5_init 56 = .ok (.putfield 28, 3) := by decide +kernel
theorem dX5_init_59 : decode cX5_init 59 = .ok (.aload_n 0, 1) := by decide +kernel
theorem dX5_init_60 : decode cX5_init 60 = .ok (.bipush 96, 2) := by decide +kernel
theorem dX5_init_62 : decode cX5_init 62 = .ok (.newarray .int, 2) := by decide +kernel
theorem dX5_init_64 : decode cX5_init 64 = .ok (.putfield 31, 3) := by decide +kernel
theorem dX5_init_67 : decode cX5_init 67 = .ok (.aload_n 0, 1) := by decide +kernel
theorem dX5_init_68 : decode cX5_init 68 = .ok (.bipush 7, 2) := by decide +kernel
theorem dX5_init_70 : decode cX5_init 70 = .ok (.newarray .char, 2) := by decide +kernel
theorem dX5_init_72 : decode cX5_init 72 = .ok (.dup, 1) := by decide +kernel
theorem dX5_init_73 : decode cX5_init 73 = .ok (.iconst 0, 1) := by decide +kernel
theorem dX5_init_74 : decode cX5_init 74 = .ok (.bipush 101, 2) := by decide +kernel
theorem dX5_init_76 : decode cX5_init 76 = .ok (.castore, 1) := by decide +kernel
theorem dX5_init_77 : decode cX5_init 77 = .ok (.dup, 1) := by decide +kernel
theorem dX5_init_78 : decode cX5_init 78 = .ok (.iconst 1, 1) := by decide +kernel
theorem dX5_init_79 : decode cX5_init 79 = .ok (.bipush 115, 2) := by decide +kernel
theorem dX5_init_81 : decode cX5_init 81 = .ok (.castore, 1) := by decide +kernel
theorem dX5_init_82 : decode cX5_init 82 = .ok (.dup, 1) := by decide +kernel
theorem dX5_init_83 : decode cX5_init 83 = .ok (.iconst 2, 1) := by decide +kernel
theorem dX5_init_84 : decode cX5_init 84 = .ok (.bipush 119, 2) := by decide +kernel
theorem dX5_init_86 : decode cX5_init 86 = .ok (.castore, 1) := by decide +kernel
theorem dX5_init_87 : decode cX5_init 87 = .ok (.dup, 1) := by decide +kernel
theorem dX5_init_88 : decode cX5_init 88 = .ok (.iconst 3, 1) := by decide +kernel
theorem dX5_init_89 : decode cX5_init 89 = .ok (.bipush 98, 2) := by decide +kernel
theorem dX5_init_91 : decode cX5_init 91 = .ok (.castore, 1) := by decide +kernel
theorem dX5_init_92 : decode cX5_init 92 = .ok (.dup, 1) := by decide +kernel
theorem dX5_init_93 : decode cX5_init 93 = .ok (.iconst 4, 1) := by decide +kernel
theorem dX5_init_94 : decode cX5_init 94 = .ok (.bipush 104, 2) := by decide +kernel
theorem dX5_init_96 : decode cX5_init 96 = .ok (.castore, 1) := by decide +kernel
theorem dX5_init_97 : decode cX5_init 97 = .ok (.dup, 1) := by decide +kernel
theorem dX5_init_98 : decode cX5_init 98 = .ok (.iconst 5, 1) := by decide +kernel
theorem dX5_init_99 : decode cX5_init 99 = .ok (.bipush 99, 2) := by decide +kernel
theorem dX5_init_101 : decode cX5_init 101 = .ok (.castore, 1) := by decide +kernel
theorem dX5_init_102 : decode cX5_init 102 = .ok (.dup, 1) := by decide +kernel
theorem dX5_init_103 : decode cX5_init 103 = .ok (.bipush 6, 2) := by decide +kernel
theorem dX5_init_105 : decode cX5_init 105 = .ok (.bipush 100, 2) := by decide +kernel
theorem dX5_init_107 : decode cX5_init 107 = .ok (.castore, 1) := by decide +kernel
theorem dX5_init_108 : decode cX5_init 108 = .ok (.putfield 34, 3) := by decide +kernel
theorem dX5_init_111 : decode cX5_init 111 = .ok (.aload_n 0, 1) := by decide +kernel
theorem dX5_init_112 : decode cX5_init 112 = .ok (.bipush 6, 2) := by decide +kernel
theorem dX5_init_114 : decode cX5_init 114 = .ok (.newarray .char, 2) := by decide +kernel
theorem dX5_init_116 : decode cX5_init 116 = .ok (.dup, 1) := by decide +kernel
theorem dX5_init_117 : decode cX5_init 117 = .ok (.iconst 0, 1) := by decide +kernel
theorem dX5_init_118 : decode cX5_init 118 = .ok (.bipush 101, 2) := by decide +kernel
theorem dX5_init_120 : decode cX5_init 120 = .ok (.castore, 1) := by decide +kernel
theorem dX5_init_121 : decode cX5_init 121 = .ok (.dup, 1) := by decide +kernel
theorem dX5_init_122 : decode cX5_init 122 = .ok (.iconst 1, 1) := by decide +kernel
theorem dX5_init_123 : decode cX5_init 123 = .ok (.bipush 102, 2) := by decide +kernel
theorem dX5_init_125 : decode cX5_init 125 = .ok (.castore, 1) := by decide +kernel
theorem dX5_init_126 : decode cX5_init 126 = .ok (.dup, 1) := by decide +kernel
theorem dX5_init_127 : decode cX5_init 127 = .ok (.iconst 2, 1) := by decide +kernel
theorem dX5_init_128 : decode cX5_init 128 = .ok (.bipush 99, 2) := by decide +kernel
theorem dX5_init_130 : decode cX5_init 130 = .ok (.castore, 1) := by decide +kernel
theorem dX5_init_131 : decode cX5_init 131 = .ok (.dup, 1) := by decide +kernel
theorem dX5_init_132 : decode cX5_init 132 = .ok (.iconst 3, 1) := by decide +kernel
theorem dX5_init_133 : decode cX5_init 133 = .ok (.bipush 112, 2) := by decide +kernel
theorem dX5_init_135 : decode cX5_init 135 = .ok (.castore, 1) := by decide +kernel
theorem dX5_init_136 : decode cX5_init 136 = .ok (.dup, 1) := by decide +kernel
theorem dX5_init_137 : decode cX5_init 137 = .ok (.iconst 4, 1) := by decide +kernel
theorem dX5_init_138 : decode cX5_init 138 = .ok (.bipush 104, 2) := by decide +kernel
theorem dX5_init_140 : decode cX5_init 140 = .ok (.castore, 1) := by decide +kernel
theorem dX5_init_141 : decode cX5_init 141 = .ok (.dup, 1) := by decide +kernel
theorem dX5_init_142 : decode cX5_init 142 = .ok (.iconst 5, 1) := by decide +kernel
theorem dX5_init_143 : decode cX5_init 143 = .ok (.bipush 97, 2) := by decide +kernel
theorem dX5_init_145 : decode cX5_init 145 = .ok (.castore, 1) := by decide +kernel
theorem dX5_init_146 : decode cX5_init 146 = .ok (.putfield 38, 3) := by decide +kernel
theorem dX5_init_149 : decode cX5_init 149 = .ok (.aload_n 0, 1) := by decide +kernel
theorem dX5_init_150 : decode cX5_init 150 = .ok (.bipush 6, 2) := by decide +kernel
theorem dX5_init_152 : decode cX5_init 152 = .ok (.newarray .char, 2) := by decide +kernel
theorem dX5_init_154 : decode cX5_init 154 = .ok (.dup, 1) := by decide +kernel
theorem dX5_init_155 : decode cX5_init 155 = .ok (.iconst 0, 1) := by decide +kernel
theorem dX5_init_156 : decode cX5_init 156 = .ok (.bipush 111, 2) := by decide +kernel
theorem dX5_init_158 : decode cX5_init 158 = .ok (.castore, 1) := by decide +kernel
theorem dX5_init_159 : decode cX5_init 159 = .ok (.dup, 1) := by decide +kernel
theorem dX5_init_160 : decode cX5_init 160 = .ok (.iconst 1, 1) := by decide +kernel
theorem dX5_init_161 : decode cX5_init 161 = .ok (.bipush 110, 2) := by decide +kernel
theorem dX5_init_163 : decode cX5_init 163 = .ok (.castore, 1) := by decide +kernel
theorem dX5_init_164 : decode cX5_init 164 = .ok (.dup, 1) := by decide +kernel
theorem dX5_init_165 : decode cX5_init 165 = .ok (.iconst 2, 1) := by decide +kernel
theorem dX5_init_166 : decode cX5_init 166 = .ok (.bipush 109, 2) := by decide +kernel
theorem dX5_init_168 : decode cX5_init 168 = .ok (.castore, 1) := by decide +kernel
theorem dX5_init_169 : decode cX5_init 169 = .ok (.dup, 1) := by decide +kernel
theorem dX5_init_170 : decode cX5_init 170 = .ok (.iconst 3, 1) := by decide +kernel
theorem dX5_init_171 : decode cX5_init 171 = .ok (.bipush 116, 2) := by decide +kernel
theorem dX5_init_173 : decode cX5_init 173 = .ok (.castore, 1) := by decide +kernel
theorem dX5_init_174 : decode cX5_init 174 = .ok (.dup, 1) := by decide +kernel
theorem dX5_init_175 : decode cX5_init 175 = .ok (.iconst 4, 1) := by decide +kernel
theorem dX5_init_176 : decode cX5_init 176 = .ok (.bipush 98, 2) := by decide +kernel
theorem dX5_init_178 : decode cX5_init 178 = .ok (.castore, 1) := by decide +kernel
theorem dX5_init_179 : decode cX5_init 179 = .ok (.dup, 1) := by decide +kernel
theorem dX5_init_180 : decode cX5_init 180 = .ok (.iconst 5, 1) := by decide +kernel
theorem dX5_init_181 : decode cX5_init 181 = .ok (.bipush 115, 2) := by decide +kernel
theorem dX5_init_183 : decode cX5_init 183 = .ok (.castore, 1) := by decide +kernel
theorem dX5_init_184 : decode cX5_init 184 = .ok (.putfield 41, 3) := by decide +kernel
theorem dX5_init_187 : decode cX5_init 187 = .ok (.aload_n 0, 1) := by decide +kernel
theorem dX5_init_188 : decode cX5_init 188 = .ok (.iconst 2, 1) := by decide +kernel
theorem dX5_init_189 : decode cX5_init 189 = .ok (.newarray .char, 2) := by decide +kernel
theorem dX5_init_191 : decode cX5_init 191 = .ok (.dup, 1) := by decide +kernel
theorem dX5_init_192 : decode cX5_init 192 = .ok (.iconst 0, 1) := by decide +kernel
theorem dX5_init_193 : decode cX5_init 193 = .ok (.bipush 120, 2) := by decide +kernel
theorem dX5_init_195 : decode cX5_init 195 = .ok (.castore, 1) := by decide +kernel
theorem dX5_init_196 : decode cX5_init 196 = .ok (.dup, 1) := by decide +kernel
theorem dX5_init_197 : decode cX5_init 197 = .ok (.iconst 1, 1) := by decide +kernel
theorem dX5_init_198 : decode cX5_init 198 = .ok (.bipush 111, 2) := by decide +kernel
theorem dX5_init_200 : decode cX5_init 200 = .ok (.castore, 1) := by decide +kernel
theorem dX5_init_201 : decode cX5_init 201 = .ok (.putfield 44, 3) := by decide +kernel
theorem dX5_init_204 : decode cX5_init 204 = .ok (.aload_n 0, 1) := by decide +kernel
theorem dX5_init_205 : decode cX5_init 205 = .ok (.bipush 7, 2) := by decide +kernel
theorem dX5_init_207 : decode cX5_init 207 = .ok (.newarray .int, 2) := by decide +kernel
theorem dX5_init_209 : decode cX5_init 209 = .ok (.putfield 47, 3) := by decide +kernel
theorem dX5_init_212 : decode cX5_init 212 = .ok (.aload_n 0, 1) := by decide +kernel
theorem dX5_init_213 : decode cX5_init 213 = .ok (.iconst 4, 1) := by decide +kernel
theorem dX5_init_214 : decode cX5_init 214 = .ok (.newarray .int, 2) := by decide +kernel
theorem dX5_init_216 : decode cX5_init 216 = .ok (.putfield 50, 3) := by decide +kernel
theorem dX5_init_219 : decode cX5_init 219 = .ok (.aload_n 0, 1) := by decide +kernel
theorem dX5_init_220 : decode cX5_init 220 = .ok (.bipush 20, 2) := by decide +kernel
theorem dX5_init_222 : decode cX5_init 222 = .ok (.newarray .int, 2) := by decide +kernel
theorem dX5_init_224 : decode cX5_init 224 = .ok (.putfield 53, 3) := by decide +kernel
theorem dX5_init_227 : decode cX5_init 227 = .ok (.aload_n 0, 1) := by decide +kernel
theorem dX5_init_228 : decode cX5_init 228 = .ok (.getfield 13, 3) := by decide +kernel
theorem dX5_init_231 : decode cX5_init 231 = .ok (.iconst 2, 1) := by decide +kernel
theorem dX5_init_232 : decode cX5_init 232 = .ok (.bipush 6, 2) := by decide +kernel
theorem dX5_init_234 : decode cX5_init 234 = .ok (.iastore, 1) := by decide +kernel
theorem dX5_init_235 : decode cX5_init 235 = .ok (.aload_n 0, 1) := by decide +kernel
theorem dX5_init_236 : decode cX5_init 236 = .ok (.getfield 13, 3) := by decide +kernel
theorem dX5_init_239 : decode cX5_init 239 = .ok (.iconst 4, 1) := by decide +kernel
theorem dX5_init_240 : decode cX5_init 240 = .ok (.iconst 2, 1) := by decide +kernel
theorem dX5_init_241 : decode cX5_init 241 = .ok (.iastore, 1) := by decide +kernel
theorem dX5_init_242 : decode cX5_init 242 = .ok (.aload_n 0, 1) := by decide +kernel
theorem dX5_init_243 : decode cX5_init 243 = .ok (.getfield 13, 3) := by decide +kernel
theorem dX5_init_246 : decode cX5_init 246 = .ok (.iconst 5, 1) := by decide +kernel
theorem dX5_init_247 : decode cX5_init 247 = .ok (.iconst 1, 1) := by decide +kernel
theorem dX5_init_248 : decode cX5_init 248 = .ok (.iastore, 1) := by decide +kernel
theorem dX5_init_249 : decode cX5_init 249 = .ok (.aload_n 0, 1) := by decide +kernel
theorem dX5_init_250 : decode cX5_init 250 = .ok (.getfield 13, 3) := by decide +kernel
theorem dX5_init_253 : decode cX5_init 253 = .ok (.bipush 6, 2) := by decide +kernel
theorem dX5_init_255 : decode cX5_init 255 = .ok (.iconst 3, 1) := by decide +kernel
theorem dX5_init_256 : decode cX5_init 256 = .ok (.iastore, 1) := by decide +kernel
theorem dX5_init_257 : decode cX5_init 257 = .ok (.iconst 0, 1) := by decide +kernel
theorem dX5_init_258 : decode cX5_init 258 = .ok (.istore_n 1, 1) := by decide +kernel
theorem dX5_init_259 : decode cX5_init 259 = .ok (.iload_n 1, 1) := by decide +kernel
theorem dX5_init_260 : decode cX5_init 260 = .ok (.bipush 7, 2) := by decide +kernel
theorem dX5_init_262 : decode cX5_init 262 = .ok (.if_icmp .ge 19, 3) := by decide +kernel
theorem dX5_init_265 : decode cX5_init 265 = .ok (.aload_n 0, 1) := by decide +kernel
theorem dX5_init_266 : decode cX5_init 266 = .ok (.getfield 13, 3) := by decide +kernel
theorem dX5_init_269 : decode cX5_init 269 = .ok (.bipush 20, 2) := by decide +kernel
theorem dX5_init_271 : decode cX5_init 271 = .ok (.iload_n 1, 1) := by decide +kernel
theorem dX5_init_272 : decode cX5_init 272 = .ok (.iadd, 1) := by decide +kernel
theorem dX5_init_273 : decode cX5_init 273 = .ok (.iconst 1, 1) := by decide +kernel
theorem dX5_init_274 : decode cX5_init 274 = .ok (.iastore, 1) := by decide +kernel
theorem dX5_init_275 : decode cX5_init 275 = .ok (.iinc 1 1, 3) := by decide +kernel
theorem dX5_init_278 : decode cX5_init 278 = .ok (.goto (-19), 3) := by decide +kernel
theorem dX5_init_281 : decode cX5_init 281 = .ok (.return_, 1) := by decide +kernel
theorem dX5_move_0 : decode cX5_move 0 = .ok (.iconst 0, 1) := by decide +kernel
theorem dX5_move_1 : decode cX5_move 1 = .ok (.istore_n 2, 1) := by decide +kernel
theorem dX5_move_2 : decode cX5_move 2 = .ok (.iload_n 2, 1) := by decide +kernel
theorem dX5_move_3 : decode cX5_move 3 = .ok (.bipush 46, 2) := by decide +kernel
theorem dX5_move_5 : decode cX5_move 5 = .ok (.if_icmp .ge 15, 3) := by decide +kernel
theorem dX5_move_8 : decode cX5_move 8 = .ok (.aload_n 1, 1) := by decide +kernel
theorem dX5_move_9 : decode cX5_move 9 = .ok (.iload_n 2, 1) := by decide +kernel
theorem dX5_move_10 : decode cX5_move 10 = .ok (.aload_n 0, 1) := by decide +kernel
theorem dX5_move_11 : decode cX5_move 11 = .ok (.iload_n 2, 1) := by decide +kernel
theorem dX5_move_12 : decode cX5_move 12 = .ok (.iaload, 1) := by decide +kernel
theorem dX5_move_13 : decode cX5_move 13 = .ok (.iastore, 1) := by decide +kernel
theorem dX5_move_14 : decode cX5_move 14 = .ok (.iinc 2 1, 3) := by decide +kernel
theorem dX5_move_17 : decode cX5_move 17 = .ok (.goto (-15), 3) := by decide +kernel
theorem dX5_move_20 : decode cX5_move 20 = .ok (.return_, 1) := by decide +kernel
theorem dX5_image_0 : decode cX5_image 0 = .ok (.aload_n 0, 1) := by decide +kernel
theorem dX5_image_1 : decode cX5_image 1 = .ok (.iconst 1, 1) := by decide +kernel
theorem dX5_image_2 : decode cX5_image 2 = .ok (.putfield 56, 3) := by decide +kernel
theorem dX5_image_5 : decode cX5_image 5 = .ok (.aload_n 0, 1) := by decide +kernel
theorem dX5_image_6 : decode cX5_image 6 = .ok (.getfield 13, 3) := by decide +kernel
theorem dX5_image_9 : decode cX5_image 9 = .ok (.aload_n 0, 1) := by decide +kernel
theorem dX5_image_10 : decode cX5_image 10 = .ok (.getfield 19, 3) := by decide +kernel
theorem dX5_image_13 : decode cX5_image 13 = .ok (.invokestatic 60, 3) := by decide +kernel
theorem dX5_image_16 : decode cX5_image 16 = .ok (.aload_n 0, 1) := by decide +kernel
theorem dX5_image_17 : decode cX5_image 17 = .ok (.getfield 13, 3) := by decide +kernel
theorem dX5_image_20 : decode cX5_image 20 = .ok (.iconst 1, 1) := by decide +kernel
theorem dX5_image_21 : decode cX5_image 21 = .ok (.iaload, 1) := by decide +kernel
theorem dX5_image_22 : decode cX5_image 22 = .ok (.ireturn, 1) := by decide +kernel
theorem dX5_on_0 : decode cX5_on 0 = .ok (.aload_n 0, 1) := by decide +kernel
theorem dX5_on_1 : decode cX5_on 1 = .ok (.getfield 56, 3) := by decide +kernel
theorem dX5_on_4 : decode cX5_on 4 = .ok (.ifCond .ne 10, 3) := by decide +kernel
theorem dX5_on_7 : decode cX5_on 7 = .ok (.aload_n 0, 1) := by decide +kernel
theorem dX5_on_8 : decode cX5_on 8 = .ok (.bipush (-3), 2) := by decide +kernel
theorem dX5_on_10 : decode cX5_on 10 = .ok (.invokevirtual 64, 3) := by decide +kernel
theorem dX5_on_13 : decode cX5_on 13 = .ok (.ireturn, 1) := by decide +kernel
theorem dX5_on_14 : decode cX5_on 14 = .ok (.aload_n 0, 1) := by decide +kernel
theorem dX5_on_15 : decode cX5_on 15 = .ok (.getfield 19, 3) := by decide +kernel
theorem dX5_on_18 : decode cX5_on 18 = .ok (.aload_n 0, 1) := by decide +kernel
theorem dX5_on_19 : decode cX5_on 19 = .ok (.getfield 13, 3) := by decide +kernel
theorem dX5_on_22 : decode cX5_on 22 = .ok (.invokestatic 60, 3) := by decide +kernel
theorem dX5_on_25 : decode cX5_on 25 = .ok (.aload_n 0, 1) := by decide +kernel
theorem dX5_on_26 : decode cX5_on 26 = .ok (.getfield 13, 3) := by decide +kernel
theorem dX5_on_29 : decode cX5_on 29 = .ok (.iconst 1, 1) := by decide +kernel
theorem dX5_on_30 : decode cX5_on 30 = .ok (.iaload, 1) := by decide +kernel
theorem dX5_on_31 : decode cX5_on 31 = .ok (.ireturn, 1) := by decide +kernel
theorem dX5_worthOf_0 : decode cX5_worthOf 0 = .ok (.aload_n 0, 1) := by decide +kernel
theorem dX5_worthOf_1 : decode cX5_worthOf 1 = .ok (.bipush 30, 2) := by decide +kernel
theorem dX5_worthOf_3 : decode cX5_worthOf 3 = .ok (.iconst 4, 1) := by decide +kernel
theorem dX5_worthOf_4 : decode cX5_worthOf 4 = .ok (.iload_n 1, 1) := by decide +kernel
theorem dX5_worthOf_5 : decode cX5_worthOf 5 = .ok (.imul, 1) := by decide +kernel
theorem dX5_worthOf_6 : decode cX5_worthOf 6 = .ok (.iadd, 1) := by decide +kernel
theorem dX5_worthOf_7 : decode cX5_worthOf 7 = .ok (.iaload, 1) := by decide +kernel
theorem dX5_worthOf_8 : decode cX5_worthOf 8 = .ok (.istore_n 3, 1) := by decide +kernel
theorem dX5_worthOf_9 : decode cX5_worthOf 9 = .ok (.aload_n 0, 1) := by decide +kernel
theorem dX5_worthOf_10 : decode cX5_worthOf 10 = .ok (.bipush 30, 2) := by decide +kernel
theorem dX5_worthOf_12 : decode cX5_worthOf 12 = .ok (.iconst 4, 1) := by decide +kernel
theorem dX5_worthOf_13 : decode cX5_worthOf 13 = .ok (.iload_n 1, 1) := by decide +kernel
theorem dX5_worthOf_14 : decode cX5_worthOf 14 = .ok (.imul, 1) := by decide +kernel
theorem dX5_worthOf_15 : decode cX5_worthOf 15 = .ok (.iadd, 1) := by decide +kernel
theorem dX5_worthOf_16 : decode cX5_worthOf 16 = .ok (.iconst 2, 1) := by decide +kernel
theorem dX5_worthOf_17 : decode cX5_worthOf 17 = .ok (.iadd, 1) := by decide +kernel
theorem dX5_worthOf_18 : decode cX5_worthOf 18 = .ok (.iaload, 1) := by decide +kernel
theorem dX5_worthOf_19 : decode cX5_worthOf 19 = .ok (.istore 4, 2) := by decide +kernel
theorem dX5_worthOf_21 : decode cX5_worthOf 21 = .ok (.iload_n 3, 1) := by decide +kernel
theorem dX5_worthOf_22 : decode cX5_worthOf 22 = .ok (.tableswitch 66 0 4 #[34, 66, 43, 66, 64], 34) := by decide +kernel
theorem dX5_worthOf_56 : decode cX5_worthOf 56 = .ok (.iconst 0, 1) := by decide +kernel
theorem dX5_worthOf_57 : decode cX5_worthOf 57 = .ok (.iload 4, 2) := by decide +kernel
theorem dX5_worthOf_59 : decode cX5_worthOf 59 = .ok (.iload_n 2, 1) := by decide +kernel
theorem dX5_worthOf_60 : decode cX5_worthOf 60 = .ok (.isub, 1) := by decide +kernel
theorem dX5_worthOf_61 : decode cX5_worthOf 61 = .ok (.invokestatic 68, 3) := by decide +kernel
theorem dX5_worthOf_64 : decode cX5_worthOf 64 = .ok (.ireturn, 1) := by decide +kernel
theorem dX5_worthOf_65 : decode cX5_worthOf 65 = .ok (.iload_n 2, 1) := by decide +kernel
theorem dX5_worthOf_66 : decode cX5_worthOf 66 = .ok (.iconst 2, 1) := by decide +kernel
theorem dX5_worthOf_67 : decode cX5_worthOf 67 = .ok (.if_icmp .le 10, 3) := by decide +kernel
theorem dX5_worthOf_70 : decode cX5_worthOf 70 = .ok (.iload 4, 2) := by decide +kernel
theorem dX5_worthOf_72 : decode cX5_worthOf 72 = .ok (.iconst 1, 1) := by decide +kernel
theorem dX5_worthOf_73 : decode cX5_worthOf 73 = .ok (.iadd, 1) := by decide +kernel
theorem dX5_worthOf_74 : decode cX5_worthOf 74 = .ok (.goto 11, 3) := by decide +kernel
theorem dX5_worthOf_77 : decode cX5_worthOf 77 = .ok (.iconst 0, 1) := by decide +kernel
theorem dX5_worthOf_78 : decode cX5_worthOf 78 = .ok (.iload 4, 2) := by decide +kernel
theorem dX5_worthOf_80 : decode cX5_worthOf 80 = .ok (.iload_n 2, 1) := by decide +kernel
theorem dX5_worthOf_81 : decode cX5_worthOf 81 = .ok (.isub, 1) := by decide +kernel
theorem dX5_worthOf_82 : decode cX5_worthOf 82 = .ok (.invokestatic 68, 3) := by decide +kernel
theorem dX5_worthOf_85 : decode cX5_worthOf 85 = .ok (.ireturn, 1) := by decide +kernel
theorem dX5_worthOf_86 : decode cX5_worthOf 86 = .ok (.iconst 1, 1) := by decide +kernel
theorem dX5_worthOf_87 : decode cX5_worthOf 87 = .ok (.ireturn, 1) := by decide +kernel
theorem dX5_worthOf_88 : decode cX5_worthOf 88 = .ok (.iload_n 2, 1) := by decide +kernel
theorem dX5_worthOf_89 : decode cX5_worthOf 89 = .ok (.iconst 1, 1) := by decide +kernel
theorem dX5_worthOf_90 : decode cX5_worthOf 90 = .ok (.if_icmp .gt 13, 3) := by decide +kernel
theorem dX5_worthOf_93 : decode cX5_worthOf 93 = .ok (.iload_n 2, 1) := by decide +kernel
theorem dX5_worthOf_94 : decode cX5_worthOf 94 = .ok (.iconst 1, 1) := by decide +kernel
theorem dX5_worthOf_95 : decode cX5_worthOf 95 = .ok (.if_icmp .ne 10, 3) := by decide +kernel
theorem dX5_worthOf_98 : decode cX5_worthOf 98 = .ok (.iload_n 3, 1) := by decide +kernel
theorem dX5_worthOf_99 : decode cX5_worthOf 99 = .ok (.iconst 1, 1) := by decide +kernel
theorem dX5_worthOf_100 : decode cX5_worthOf 100 = .ok (.if_icmp .ne 5, 3) := by decide +kernel
theorem dX5_worthOf_103 : decode cX5_worthOf 103 = .ok (.iconst (-1), 1) := by decide +kernel
theorem dX5_worthOf_104 : decode cX5_worthOf 104 = .ok (.ireturn, 1) := by decide +kernel
theorem dX5_worthOf_105 : decode cX5_worthOf 105 = .ok (.iload_n 2, 1) := by decide +kernel
theorem dX5_worthOf_106 : decode cX5_worthOf 106 = .ok (.ifCond .ne 8, 3) := by decide +kernel
theorem dX5_worthOf_109 : decode cX5_worthOf 109 = .ok (.iload 4, 2) := by decide +kernel
theorem dX5_worthOf_111 : decode cX5_worthOf 111 = .ok (.goto 7, 3) := by decide +kernel
theorem dX5_worthOf_114 : decode cX5_worthOf 114 = .ok (.iload 4, 2) := by decide +kernel
theorem dX5_worthOf_116 : decode cX5_worthOf 116 = .ok (.iconst 2, 1) := by decide +kernel
theorem dX5_worthOf_117 : decode cX5_worthOf 117 = .ok (.idiv, 1) := by decide +kernel
theorem dX5_worthOf_118 : decode cX5_worthOf 118 = .ok (.istore 5, 2) := by decide +kernel
theorem dX5_worthOf_120 : decode cX5_worthOf 120 = .ok (.iload_n 3, 1) := by decide +kernel
theorem dX5_worthOf_121 : decode cX5_worthOf 121 = .ok (.iconst 5, 1) := by decide +kernel
theorem dX5_worthOf_122 : decode cX5_worthOf 122 = .ok (.if_icmp .ne 24, 3) := by decide +kernel
theorem dX5_worthOf_125 : decode cX5_worthOf 125 = .ok (.aload_n 0, 1) := by decide +kernel
theorem dX5_worthOf_126 : decode cX5_worthOf 126 = .ok (.iconst 1, 1) := by decide +kernel
theorem dX5_worthOf_127 : decode cX5_worthOf 127 = .ok (.iaload, 1) := by decide +kernel
theorem dX5_worthOf_128 : decode cX5_worthOf 128 = .ok (.bipush 7, 2) := by decide +kernel
theorem dX5_worthOf_130 : decode cX5_worthOf 130 = .ok (.irem, 1) := by decide +kernel
theorem dX5_worthOf_131 : decode cX5_worthOf 131 = .ok (.iconst 4, 1) := by decide +kernel
theorem dX5_worthOf_132 : decode cX5_worthOf 132 = .ok (.if_icmp .le 14, 3) := by decide +kernel
theorem dX5_worthOf_135 : decode cX5_worthOf 135 = .ok (.iconst 0, 1) := by decide +kernel
theorem dX5_worthOf_136 : decode cX5_worthOf 136 = .ok (.iload 5, 2) := by decide +kernel
theorem dX5_worthOf_138 : decode cX5_worthOf 138 = .ok (.iconst 1, 1) := by decide +kernel
theorem dX5_worthOf_139 : decode cX5_worthOf 139 = .ok (.isub, 1) := by decide +kernel
theorem dX5_worthOf_140 : decode cX5_worthOf 140 = .ok (.invokestatic 68, 3) := by decide +kernel
theorem dX5_worthOf_143 : decode cX5_worthOf 143 = .ok (.goto 5, 3) := by decide +kernel
theorem dX5_worthOf_146 : decode cX5_worthOf 146 = .ok (.iload 5, 2) := by decide +kernel
theorem dX5_worthOf_148 : decode cX5_worthOf 148 = .ok (.ireturn, 1) := by decide +kernel
theorem dX5_next_0 : decode cX5_next 0 = .ok (.aload_n 0, 1) := by decide +kernel
theorem dX5_next_1 : decode cX5_next 1 = .ok (.bipush 7, 2) := by decide +kernel
theorem dX5_next_3 : decode cX5_next 3 = .ok (.iaload, 1) := by decide +kernel
theorem dX5_next_4 : decode cX5_next 4 = .ok (.istore_n 2, 1) := by decide +kernel
theorem dX5_next_5 : decode cX5_next 5 = .ok (.iload_n 2, 1) := by decide +kernel
theorem dX5_next_6 : decode cX5_next 6 = .ok (.iconst 4, 1) := by decide +kernel
theorem dX5_next_7 : decode cX5_next 7 = .ok (.if_icmp .ne 19, 3) := by decide +kernel
theorem dX5_next_10 : decode cX5_next 10 = .ok (.aload_n 0, 1) := by decide +kernel
theorem dX5_next_11 : decode cX5_next 11 = .ok (.iconst 1, 1) := by decide +kernel
theorem dX5_next_12 : decode cX5_next 12 = .ok (.iaload, 1) := by decide +kernel
theorem dX5_next_13 : decode cX5_next 13 = .ok (.iconst 2, 1) := by decide +kernel
theorem dX5_next_14 : decode cX5_next 14 = .ok (.irem, 1) := by decide +kernel
theorem dX5_next_15 : decode cX5_next 15 = .ok (.ifCond .ne 7, 3) := by decide +kernel
theorem dX5_next_18 : decode cX5_next 18 = .ok (.iconst 2, 1) := by decide +kernel
theorem dX5_next_19 : decode cX5_next 19 = .ok (.goto 8, 3) := by decide +kernel
theorem dX5_next_22 : decode cX5_next 22 = .ok (.iconst 1, 1) := by decide +kernel
theorem dX5_next_23 : decode cX5_next 23 = .ok (.goto 4, 3) := by decide +kernel
theorem dX5_next_26 : decode cX5_next 26 = .ok (.iload_n 2, 1) := by decide +kernel
theorem dX5_next_27 : decode cX5_next 27 = .ok (.istore_n 2, 1) := by decide +kernel
theorem dX5_next_28 : decode cX5_next 28 = .ok (.bipush (-9), 2) := by decide +kernel
theorem dX5_next_30 : decode cX5_next 30 = .ok (.istore_n 3, 1) := by decide +kernel
theorem dX5_next_31 : decode cX5_next 31 = .ok (.iconst 4, 1) := by decide +kernel
theorem dX5_next_32 : decode cX5_next 32 = .ok (.istore 4, 2) := by decide +kernel
theorem dX5_next_34 : decode cX5_next 34 = .ok (.iload 4, 2) := by decide +kernel
theorem dX5_next_36 : decode cX5_next 36 = .ok (.ifCond .lt 79, 3) := by decide +kernel
theorem dX5_next_39 : decode cX5_next 39 = .ok (.aload_n 0, 1) := by decide +kernel
theorem dX5_next_40 : decode cX5_next 40 = .ok (.iload_n 1, 1) := by decide +kernel
theorem dX5_next_41 : decode cX5_next 41 = .ok (.iload 4, 2) := by decide +kernel
theorem dX5_next_43 : decode cX5_next 43 = .ok (.invokestatic 74, 3) := by decide +kernel
theorem dX5_next_46 : decode cX5_next 46 = .ok (.istore 5, 2) := by decide +kernel
theorem dX5_next_48 : decode cX5_next 48 = .ok (.aload_n 0, 1) := by decide +kernel
theorem dX5_next_49 : decode cX5_next 49 = .ok (.bipush 10, 2) := by decide +kernel
theorem dX5_next_51 : decode cX5_next 51 = .ok (.iload 4, 2) := by decide +kernel
theorem dX5_next_53 : decode cX5_next 53 = .ok (.iadd, 1) := by decide +kernel
theorem dX5_next_54 : decode cX5_next 54 = .ok (.iaload, 1) := by decide +kernel
theorem dX5_next_55 : decode cX5_next 55 = .ok (.ifCond .le 54, 3) := by decide +kernel
theorem dX5_next_58 : decode cX5_next 58 = .ok (.iload 5, 2) := by decide +kernel
theorem dX5_next_60 : decode cX5_next 60 = .ok (.ifCond .lt 49, 3) := by decide +kernel
theorem dX5_next_63 : decode cX5_next 63 = .ok (.iload_n 3, 1) := by decide +kernel
theorem dX5_next_64 : decode cX5_next 64 = .ok (.bipush (-9), 2) := by decide +kernel
theorem dX5_next_66 : decode cX5_next 66 = .ok (.if_icmp .eq 24, 3) := by decide +kernel
theorem dX5_next_69 : decode cX5_next 69 = .ok (.iload_n 2, 1) := by decide +kernel
theorem dX5_next_70 : decode cX5_next 70 = .ok (.iconst 1, 1) := by decide +kernel
theorem dX5_next_71 : decode cX5_next 71 = .ok (.if_icmp .eq 19, 3) := by decide +kernel
theorem dX5_next_74 : decode cX5_next 74 = .ok (.iload_n 2, 1) := by decide +kernel
theorem dX5_next_75 : decode cX5_next 75 = .ok (.iconst 2, 1) := by decide +kernel
theorem dX5_next_76 : decode cX5_next 76 = .ok (.if_icmp .ne 18, 3) := by decide +kernel
theorem dX5_next_79 : decode cX5_next 79 = .ok (.iload 5, 2) := by decide +kernel
theorem dX5_next_81 : decode cX5_next 81 = .ok (.aload_n 0, 1) := by decide +kernel
theorem dX5_next_82 : decode cX5_next 82 = .ok (.iload_n 1, 1) := by decide +kernel
theorem dX5_next_83 : decode cX5_next 83 = .ok (.iload_n 3, 1) := by decide +kernel
theorem dX5_next_84 : decode cX5_next 84 = .ok (.invokestatic 74, 3) := by decide +kernel
theorem dX5_next_87 : decode cX5_next 87 = .ok (.if_icmp .le 7, 3) := by decide +kernel
theorem dX5_next_90 : decode cX5_next 90 = .ok (.iconst 1, 1) := by decide +kernel
theorem dX5_next_91 : decode cX5_next 91 = .ok (.goto 4, 3) := by decide +kernel
theorem dX5_next_94 : decode cX5_next 94 = .ok (.iconst 0, 1) := by decide +kernel
theorem dX5_next_95 : decode cX5_next 95 = .ok (.istore 6, 2) := by decide +kernel
theorem dX5_next_97 : decode cX5_next 97 = .ok (.iload 6, 2) := by decide +kernel
theorem dX5_next_99 : decode cX5_next 99 = .ok (.ifCond .eq 8, 3) := by decide +kernel
theorem dX5_next_102 : decode cX5_next 102 = .ok (.iload 4, 2) := by decide +kernel
theorem dX5_next_104 : decode cX5_next 104 = .ok (.goto 4, 3) := by decide +kernel
theorem dX5_next_107 : decode cX5_next 107 = .ok (.iload_n 3, 1) := by decide +kernel
theorem dX5_next_108 : decode cX5_next 108 = .ok (.istore_n 3, 1) := by decide +kernel
theorem dX5_next_109 : decode cX5_next 109 = .ok (.iinc 4 (-1), 3) := by decide +kernel
theorem dX5_next_112 : decode cX5_next 112 = .ok (.goto (-78), 3) := by decide +kernel
theorem dX5_next_115 : decode cX5_next 115 = .ok (.iload_n 3, 1) := by decide +kernel
theorem dX5_next_116 : decode cX5_next 116 = .ok (.ifCond .ne 26, 3) := by decide +kernel
theorem dX5_next_119 : decode cX5_next 119 = .ok (.iload_n 2, 1) := by decide +kernel
theorem dX5_next_120 : decode cX5_next 120 = .ok (.iconst 3, 1) := by decide +kernel
theorem dX5_next_121 : decode cX5_next 121 = .ok (.if_icmp .eq 8, 3) := by decide +kernel
theorem dX5_next_124 : decode cX5_next 124 = .ok (.iload_n 2, 1) := by decide +kernel
theorem dX5_next_125 : decode cX5_next 125 = .ok (.iconst 5, 1) := by decide +kernel
theorem dX5_next_126 : decode cX5_next 126 = .ok (.if_icmp .ne 16, 3) := by decide +kernel
theorem dX5_next_129 : decode cX5_next 129 = .ok (.aload_n 0, 1) := by decide +kernel
theorem dX5_next_130 : decode cX5_next 130 = .ok (.bipush 10, 2) := by decide +kernel
theorem dX5_next_132 : decode cX5_next 132 = .ok (.iaload, 1) := by decide +kernel
theorem dX5_next_133 : decode cX5_next 133 = .ok (.iconst 3, 1) := by decide +kernel
theorem dX5_next_134 : decode cX5_next 134 = .ok (.if_icmp .gt 8, 3) := by decide +kernel
theorem dX5_next_137 : decode cX5_next 137 = .ok (.bipush (-9), 2) := by decide +kernel
theorem dX5_next_139 : decode cX5_next 139 = .ok (.goto 4, 3) := by decide +kernel
theorem dX5_next_142 : decode cX5_next 142 = .ok (.iload_n 3, 1) := by decide +kernel
theorem dX5_next_143 : decode cX5_next 143 = .ok (.ireturn, 1) := by decide +kernel
theorem dX5_come_0 : decode cX5_come 0 = .ok (.iload_n 3, 1) := by decide +kernel
theorem dX5_come_1 : decode cX5_come 1 = .ok (.bipush 60, 2) := by decide +kernel
theorem dX5_come_3 : decode cX5_come 3 = .ok (.aload_n 1, 1) := by decide +kernel
theorem dX5_come_4 : decode cX5_come 4 = .ok (.bipush 10, 2) := by decide +kernel
theorem dX5_come_6 : decode cX5_come 6 = .ok (.iload_n 2, 1) := by decide +kernel
theorem dX5_come_7 : decode cX5_come 7 = .ok (.iadd, 1) := by decide +kernel
theorem dX5_come_8 : decode cX5_come 8 = .ok (.iaload, 1) := by decide +kernel
theorem dX5_come_9 : decode cX5_come 9 = .ok (.isub, 1) := by decide +kernel
theorem dX5_come_10 : decode cX5_come 10 = .ok (.invokestatic 78, 3) := by decide +kernel
theorem dX5_come_13 : decode cX5_come 13 = .ok (.istore 4, 2) := by decide +kernel
theorem dX5_come_15 : decode cX5_come 15 = .ok (.aload_n 1, 1) := by decide +kernel
theorem dX5_come_16 : decode cX5_come 16 = .ok (.bipush 10, 2) := by decide +kernel
theorem dX5_come_18 : decode cX5_come 18 = .ok (.iload_n 2, 1) := by decide +kernel
theorem dX5_come_19 : decode cX5_come 19 = .ok (.iadd, 1) := by decide +kernel
theorem dX5_come_20 : decode cX5_come 20 = .ok (.dup2, 1) := by decide +kernel
theorem dX5_come_21 : decode cX5_come 21 = .ok (.iaload, 1) := by decide +kernel
theorem dX5_come_22 : decode cX5_come 22 = .ok (.iload 4, 2) := by decide +kernel
theorem dX5_come_24 : decode cX5_come 24 = .ok (.iadd, 1) := by decide +kernel
theorem dX5_come_25 : decode cX5_come 25 = .ok (.iastore, 1) := by decide +kernel
theorem dX5_come_26 : decode cX5_come 26 = .ok (.aload_n 0, 1) := by decide +kernel
theorem dX5_come_27 : decode cX5_come 27 = .ok (.dup, 1) := by decide +kernel
theorem dX5_come_28 : decode cX5_come 28 = .ok (.getfield 81, 3) := by decide +kernel
theorem dX5_come_31 : decode cX5_come 31 = .ok (.iload 4, 2) := by decide +kernel
theorem dX5_come_33 : decode cX5_come 33 = .ok (.iadd, 1) := by decide +kernel
theorem dX5_come_34 : decode cX5_come 34 = .ok (.putfield 81, 3) := by decide +kernel
theorem dX5_come_37 : decode cX5_come 37 = .ok (.iload 4, 2) := by decide +kernel
theorem dX5_come_39 : decode cX5_come 39 = .ok (.ireturn, 1) := by decide +kernel
theorem dX5_day_0 : decode cX5_day 0 = .ok (.aload_n 0, 1) := by decide +kernel
theorem dX5_day_1 : decode cX5_day 1 = .ok (.iconst 0, 1) := by decide +kernel
theorem dX5_day_2 : decode cX5_day 2 = .ok (.putfield 85, 3) := by decide +kernel
theorem dX5_day_5 : decode cX5_day 5 = .ok (.aload_n 0, 1) := by decide +kernel
theorem dX5_day_6 : decode cX5_day 6 = .ok (.iconst 0, 1) := by decide +kernel
theorem dX5_day_7 : decode cX5_day 7 = .ok (.putfield 88, 3) := by decide +kernel
theorem dX5_day_10 : decode cX5_day 10 = .ok (.aload_n 0, 1) := by decide +kernel
theorem dX5_day_11 : decode cX5_day 11 = .ok (.iconst 0, 1) := by decide +kernel
theorem dX5_day_12 : decode cX5_day 12 = .ok (.putfield 91, 3) := by decide +kernel
theorem dX5_day_15 : decode cX5_day 15 = .ok (.aload_n 0, 1) := by decide +kernel
theorem dX5_day_16 : decode cX5_day 16 = .ok (.iconst 0, 1) := by decide +kernel
theorem dX5_day_17 : decode cX5_day 17 = .ok (.putfield 81, 3) := by decide +kernel
theorem dX5_day_20 : decode cX5_day 20 = .ok (.aload_n 0, 1) := by decide +kernel
theorem dX5_day_21 : decode cX5_day 21 = .ok (.iconst 0, 1) := by decide +kernel
theorem dX5_day_22 : decode cX5_day 22 = .ok (.putfield 94, 3) := by decide +kernel
theorem dX5_day_25 : decode cX5_day 25 = .ok (.aload_n 1, 1) := by decide +kernel
theorem dX5_day_26 : decode cX5_day 26 = .ok (.bipush 20, 2) := by decide +kernel
theorem dX5_day_28 : decode cX5_day 28 = .ok (.aload_n 1, 1) := by decide +kernel
theorem dX5_day_29 : decode cX5_day 29 = .ok (.iconst 1, 1) := by decide +kernel
theorem dX5_day_30 : decode cX5_day 30 = .ok (.iaload, 1) := by decide +kernel
theorem dX5_day_31 : decode cX5_day 31 = .ok (.bipush 7, 2) := by decide +kernel
theorem dX5_day_33 : decode cX5_day 33 = .ok (.irem, 1) := by decide +kernel
theorem dX5_day_34 : decode cX5_day 34 = .ok (.iadd, 1) := by decide +kernel
theorem dX5_day_35 : decode cX5_day 35 = .ok (.iaload, 1) := by decide +kernel
theorem dX5_day_36 : decode cX5_day 36 = .ok (.iconst 1, 1) := by decide +kernel
theorem dX5_day_37 : decode cX5_day 37 = .ok (.if_icmp .ne 89, 3) := by decide +kernel
theorem dX5_day_40 : decode cX5_day 40 = .ok (.aload_n 0, 1) := by decide +kernel
theorem dX5_day_41 : decode cX5_day 41 = .ok (.dup, 1) := by decide +kernel
theorem dX5_day_42 : decode cX5_day 42 = .ok (.getfield 85, 3) := by decide +kernel
theorem dX5_day_45 : decode cX5_day 45 = .ok (.aload_n 1, 1) := by decide +kernel
theorem dX5_day_46 : decode cX5_day 46 = .ok (.iconst 4, 1) := by decide +kernel
theorem dX5_day_47 : decode cX5_day 47 = .ok (.iaload, 1) := by decide +kernel
theorem dX5_day_48 : decode cX5_day 48 = .ok (.aload_n 0, 1) := by decide +kernel
theorem dX5_day_49 : decode cX5_day 49 = .ok (.aload_n 1, 1) := by decide +kernel
theorem dX5_day_50 : decode cX5_day 50 = .ok (.iconst 0, 1) := by decide +kernel
theorem dX5_day_51 : decode cX5_day 51 = .ok (.aload_n 1, 1) := by decide +kernel
theorem dX5_day_52 : decode cX5_day 52 = .ok (.iconst 2, 1) := by decide +kernel
theorem dX5_day_53 : decode cX5_day 53 = .ok (.iaload, 1) := by decide +kernel
theorem dX5_day_54 : decode cX5_day 54 = .ok (.iload_n 2, 1) := by decide +kernel
theorem dX5_day_55 : decode cX5_day 55 = .ok (.isub, 1) := by decide +kernel
theorem dX5_day_56 : decode cX5_day 56 = .ok (.invokevirtual 97, 3) := by decide +kernel
theorem dX5_day_59 : decode cX5_day 59 = .ok (.imul, 1) := by decide +kernel
theorem dX5_day_60 : decode cX5_day 60 = .ok (.isub, 1) := by decide +kernel
theorem dX5_day_61 : decode cX5_day 61 = .ok (.putfield 85, 3) := by decide +kernel
theorem dX5_day_64 : decode cX5_day 64 = .ok (.aload_n 0, 1) := by decide +kernel
theorem dX5_day_65 : decode cX5_day 65 = .ok (.dup, 1) := by decide +kernel
theorem dX5_day_66 : decode cX5_day 66 = .ok (.getfield 85, 3) := by decide +kernel
theorem dX5_day_69 : decode cX5_day 69 = .ok (.aload_n 1, 1) := by decide +kernel
theorem dX5_day_70 : decode cX5_day 70 = .ok (.iconst 4, 1) := by decide +kernel
theorem dX5_day_71 : decode cX5_day 71 = .ok (.iaload, 1) := by decide +kernel
theorem dX5_day_72 : decode cX5_day 72 = .ok (.iconst 2, 1) := by decide +kernel
theorem dX5_day_73 : decode cX5_day 73 = .ok (.idiv, 1) := by decide +kernel
theorem dX5_day_74 : decode cX5_day 74 = .ok (.aload_n 0, 1) := by decide +kernel
theorem dX5_day_75 : decode cX5_day 75 = .ok (.aload_n 1, 1) := by decide +kernel
theorem dX5_day_76 : decode cX5_day 76 = .ok (.iconst 1, 1) := by decide +kernel
theorem dX5_day_77 : decode cX5_day 77 = .ok (.aload_n 1, 1) := by decide +kernel
theorem dX5_day_78 : decode cX5_day 78 = .ok (.iconst 3, 1) := by decide +kernel
theorem dX5_day_79 : decode cX5_day 79 = .ok (.iaload, 1) := by decide +kernel
theorem dX5_day_80 : decode cX5_day 80 = .ok (.invokevirtual 97, 3) := by decide +kernel
theorem dX5_day_83 : decode cX5_day 83 = .ok (.imul, 1) := by decide +kernel
theorem dX5_day_84 : decode cX5_day 84 = .ok (.isub, 1) := by decide +kernel
theorem dX5_day_85 : decode cX5_day 85 = .ok (.putfield 85, 3) := by decide +kernel
theorem dX5_day_88 : decode cX5_day 88 = .ok (.aload_n 1, 1) := by decide +kernel
theorem dX5_day_89 : decode cX5_day 89 = .ok (.bipush 20, 2) := by decide +kernel
theorem dX5_day_91 : decode cX5_day 91 = .ok (.aload_n 1, 1) := by decide +kernel
theorem dX5_day_92 : decode cX5_day 92 = .ok (.iconst 1, 1) := by decide +kernel
theorem dX5_day_93 : decode cX5_day 93 = .ok (.iaload, 1) := by decide +kernel
theorem dX5_day_94 : decode cX5_day 94 = .ok (.iconst 1, 1) := by decide +kernel
theorem dX5_day_95 : decode cX5_day 95 = .ok (.iadd, 1) := by decide +kernel
theorem dX5_day_96 : decode cX5_day 96 = .ok (.bipush 7, 2) := by decide +kernel
theorem dX5_day_98 : decode cX5_day 98 = .ok (.irem, 1) := by decide +kernel
theorem dX5_day_99 : decode cX5_day 99 = .ok (.iadd, 1) := by decide +kernel
theorem dX5_day_100 : decode cX5_day 100 = .ok (.iaload, 1) := by decide +kernel
theorem dX5_day_101 : decode cX5_day 101 = .ok (.ifCond .ne 25, 3) := by decide +kernel
theorem dX5_day_104 : decode cX5_day 104 = .ok (.aload_n 0, 1) := by decide +kernel
theorem dX5_day_105 : decode cX5_day 105 = .ok (.dup, 1) := by decide +kernel
theorem dX5_day_106 : decode cX5_day 106 = .ok (.getfield 85, 3) := by decide +kernel
theorem dX5_day_109 : decode cX5_day 109 = .ok (.aload_n 1, 1) := by decide +kernel
theorem dX5_day_110 : decode cX5_day 110 = .ok (.iconst 4, 1) := by decide +kernel
theorem dX5_day_111 : decode cX5_day 111 = .ok (.iaload, 1) := by decide +kernel
theorem dX5_day_112 : decode cX5_day 112 = .ok (.aload_n 0, 1) := by decide +kernel
theorem dX5_day_113 : decode cX5_day 113 = .ok (.aload_n 1, 1) := by decide +kernel
theorem dX5_day_114 : decode cX5_day 114 = .ok (.iconst 0, 1) := by decide +kernel
theorem dX5_day_115 : decode cX5_day 115 = .ok (.aload_n 1, 1) := by decide +kernel
theorem dX5_day_116 : decode cX5_day 116 = .ok (.iconst 2, 1) := by decide +kernel
theorem dX5_day_117 : decode cX5_day 117 = .ok (.iaload, 1) := by decide +kernel
theorem dX5_day_118 : decode cX5_day 118 = .ok (.invokevirtual 97, 3) := by decide +kernel
theorem dX5_day_121 : decode cX5_day 121 = .ok (.imul, 1) := by decide +kernel
theorem dX5_day_122 : decode cX5_day 122 = .ok (.isub, 1) := by decide +kernel
theorem dX5_day_123 : decode cX5_day 123 = .ok (.putfield 85, 3) := by decide +kernel
theorem dX5_day_126 : decode cX5_day 126 = .ok (.iconst 0, 1) := by decide +kernel
theorem dX5_day_127 : decode cX5_day 127 = .ok (.istore_n 3, 1) := by decide +kernel
theorem dX5_day_128 : decode cX5_day 128 = .ok (.iload_n 3, 1) := by decide +kernel
theorem dX5_day_129 : decode cX5_day 129 = .ok (.aload_n 1, 1) := by decide +kernel
theorem dX5_day_130 : decode cX5_day 130 = .ok (.iconst 0, 1) := by decide +kernel
theorem dX5_day_131 : decode cX5_day 131 = .ok (.iaload, 1) := by decide +kernel
theorem dX5_day_132 : decode cX5_day 132 = .ok (.if_icmp .ge 162, 3) := by decide +kernel
theorem dX5_day_135 : decode cX5_day 135 = .ok (.aload_n 1, 1) := by decide +kernel
theorem dX5_day_136 : decode cX5_day 136 = .ok (.bipush 7, 2) := by decide +kernel
theorem dX5_day_138 : decode cX5_day 138 = .ok (.iaload, 1) := by decide +kernel
theorem dX5_day_139 : decode cX5_day 139 = .ok (.iconst 5, 1) := by decide +kernel
theorem dX5_day_140 : decode cX5_day 140 = .ok (.if_icmp .ne 18, 3) := by decide +kernel
theorem dX5_day_143 : decode cX5_day 143 = .ok (.iconst 0, 1) := by decide +kernel
theorem dX5_day_144 : decode cX5_day 144 = .ok (.aload_n 0, 1) := by decide +kernel
theorem dX5_day_145 : decode cX5_day 145 = .ok (.getfield 22, 3) := by decide +kernel
theorem dX5_day_148 : decode cX5_day 148 = .ok (.iload_n 3, 1) := by decide +kernel
theorem dX5_day_149 : decode cX5_day 149 = .ok (.iaload, 1) := by decide +kernel
theorem dX5_day_150 : decode cX5_day 150 = .ok (.iconst 1, 1) := by decide +kernel
theorem dX5_day_151 : decode cX5_day 151 = .ok (.isub, 1) := by decide +kernel
theorem dX5_day_152 : decode cX5_day 152 = .ok (.invokestatic 68, 3) := by decide +kernel
theorem dX5_day_155 : decode cX5_day 155 = .ok (.goto 9, 3) := by decide +kernel
theorem dX5_day_158 : decode cX5_day 158 = .ok (.aload_n 0, 1) := by decide +kernel
theorem dX5_day_159 : decode cX5_day 159 = .ok (.getfield 22, 3) := by decide +kernel
theorem dX5_day_162 : decode cX5_day 162 = .ok (.iload_n 3, 1) := by decide +kernel
theorem dX5_day_163 : decode cX5_day 163 = .ok (.iaload, 1) := by decide +kernel
theorem dX5_day_164 : decode cX5_day 164 = .ok (.istore 4, 2) := by decide +kernel
theorem dX5_day_166 : decode cX5_day 166 = .ok (.iconst 0, 1) := by decide +kernel
theorem dX5_day_167 : decode cX5_day 167 = .ok (.istore 5, 2) := by decide +kernel
theorem dX5_day_169 : decode cX5_day 169 = .ok (.aload_n 1, 1) := by decide +kernel
theorem dX5_day_170 : decode cX5_day 170 = .ok (.iload_n 3, 1) := by decide +kernel
theorem dX5_day_171 : decode cX5_day 171 = .ok (.invokestatic 100, 3) := by decide +kernel
theorem dX5_day_174 : decode cX5_day 174 = .ok (.istore 6, 2) := by decide +kernel
theorem dX5_day_176 : decode cX5_day 176 = .ok (.iload 5, 2) := by decide +kernel
theorem dX5_day_178 : decode cX5_day 178 = .ok (.iload 4, 2) := by decide +kernel
theorem dX5_day_180 : decode cX5_day 180 = .ok (.if_icmp .ge 90, 3) := by decide +kernel
theorem dX5_day_183 : decode cX5_day 183 = .ok (.iload 6, 2) := by decide +kernel
theorem dX5_day_185 : decode cX5_day 185 = .ok (.bipush (-9), 2) := by decide +kernel
theorem dX5_day_187 : decode cX5_day 187 = .ok (.if_icmp .eq 83, 3) := by decide +kernel
theorem dX5_day_190 : decode cX5_day 190 = .ok (.aload_n 0, 1) := by decide +kernel
theorem dX5_day_191 : decode cX5_day 191 = .ok (.dup, 1) := by decide +kernel
theorem dX5_day_192 : decode cX5_day 192 = .ok (.getfield 85, 3) := by decide +kernel
theorem dX5_day_195 : decode cX5_day 195 = .ok (.aload_n 1, 1) := by decide +kernel
theorem dX5_day_196 : decode cX5_day 196 = .ok (.iload_n 3, 1) := by decide +kernel
theorem dX5_day_197 : decode cX5_day 197 = .ok (.iload 6, 2) := by decide +kernel
theorem dX5_day_199 : decode cX5_day 199 = .ok (.invokestatic 74, 3) := by decide +kernel
theorem dX5_day_202 : decode cX5_day 202 = .ok (.iadd, 1) := by decide +kernel
theorem dX5_day_203 : decode cX5_day 203 = .ok (.putfield 85, 3) := by decide +kernel
theorem dX5_day_206 : decode cX5_day 206 = .ok (.aload_n 1, 1) := by decide +kernel
theorem dX5_day_207 : decode cX5_day 207 = .ok (.bipush 10, 2) := by decide +kernel
theorem dX5_day_209 : decode cX5_day 209 = .ok (.iload 6, 2) := by decide +kernel
theorem dX5_day_211 : decode cX5_day 211 = .ok (.iadd, 1) := by decide +kernel
theorem dX5_day_212 : decode cX5_day 212 = .ok (.dup2, 1) := by decide +kernel
theorem dX5_day_213 : decode cX5_day 213 = .ok (.iaload, 1) := by decide +kernel
theorem dX5_day_214 : decode cX5_day 214 = .ok (.iconst 1, 1) := by decide +kernel
theorem dX5_day_215 : decode cX5_day 215 = .ok (.isub, 1) := by decide +kernel
theorem dX5_day_216 : decode cX5_day 216 = .ok (.iastore, 1) := by decide +kernel
theorem dX5_day_217 : decode cX5_day 217 = .ok (.aload_n 0, 1) := by decide +kernel
theorem dX5_day_218 : decode cX5_day 218 = .ok (.getfield 25, 3) := by decide +kernel
theorem dX5_day_221 : decode cX5_day 221 = .ok (.aload_n 0, 1) := by decide +kernel
theorem dX5_day_222 : decode cX5_day 222 = .ok (.getfield 94, 3) := by decide +kernel
theorem dX5_day_225 : decode cX5_day 225 = .ok (.iload 6, 2) := by decide +kernel
theorem dX5_day_227 : decode cX5_day 227 = .ok (.iastore, 1) := by decide +kernel
theorem dX5_day_228 : decode cX5_day 228 = .ok (.aload_n 0, 1) := by decide +kernel
theorem dX5_day_229 : decode cX5_day 229 = .ok (.dup, 1) := by decide +kernel
theorem dX5_day_230 : decode cX5_day 230 = .ok (.getfield 94, 3) := by decide +kernel
theorem dX5_day_233 : decode cX5_day 233 = .ok (.iconst 1, 1) := by decide +kernel
theorem dX5_day_234 : decode cX5_day 234 = .ok (.iadd, 1) := by decide +kernel
theorem dX5_day_235 : decode cX5_day 235 = .ok (.putfield 94, 3) := by decide +kernel
theorem dX5_day_238 : decode cX5_day 238 = .ok (.aload_n 0, 1) := by decide +kernel
theorem dX5_day_239 : decode cX5_day 239 = .ok (.dup, 1) := by decide +kernel
theorem dX5_day_240 : decode cX5_day 240 = .ok (.getfield 88, 3) := by decide +kernel
theorem dX5_day_243 : decode cX5_day 243 = .ok (.iload 6, 2) := by decide +kernel
theorem dX5_day_245 : decode cX5_day 245 = .ok (.ifCond .ne 7, 3) := by decide +kernel
theorem dX5_day_248 : decode cX5_day 248 = .ok (.iconst 1, 1) := by decide +kernel
theorem dX5_day_249 : decode cX5_day 249 = .ok (.goto 4, 3) := by decide +kernel
theorem dX5_day_252 : decode cX5_day 252 = .ok (.iconst 0, 1) := by decide +kernel
theorem dX5_day_253 : decode cX5_day 253 = .ok (.iadd, 1) := by decide +kernel
theorem dX5_day_254 : decode cX5_day 254 = .ok (.putfield 88, 3) := by decide +kernel
theorem dX5_day_257 : decode cX5_day 257 = .ok (.iinc 5 1, 3) := by decide +kernel
theorem dX5_day_260 : decode cX5_day 260 = .ok (.aload_n 1, 1) := by decide +kernel
theorem dX5_day_261 : decode cX5_day 261 = .ok (.iload_n 3, 1) := by decide +kernel
theorem dX5_day_262 : decode cX5_day 262 = .ok (.invokestatic 100, 3) := by decide +kernel
theorem dX5_day_265 : decode cX5_day 265 = .ok (.istore 6, 2) := by decide +kernel
theorem dX5_day_267 : decode cX5_day 267 = .ok (.goto (-91), 3) := by decide +kernel
theorem dX5_day_270 : decode cX5_day 270 = .ok (.aload_n 0, 1) := by decide +kernel
theorem dX5_day_271 : decode cX5_day 271 = .ok (.dup, 1) := by decide +kernel
theorem dX5_day_272 : decode cX5_day 272 = .ok (.getfield 91, 3) := by decide +kernel
theorem dX5_day_275 : decode cX5_day 275 = .ok (.aload_n 0, 1) := by decide +kernel
theorem dX5_day_276 : decode cX5_day 276 = .ok (.getfield 22, 3) := by decide +kernel
theorem dX5_day_279 : decode cX5_day 279 = .ok (.iload_n 3, 1) := by decide +kernel
theorem dX5_day_280 : decode cX5_day 280 = .ok (.iaload, 1) := by decide +kernel
theorem dX5_day_281 : decode cX5_day 281 = .ok (.iload 5, 2) := by decide +kernel
theorem dX5_day_283 : decode cX5_day 283 = .ok (.isub, 1) := by decide +kernel
theorem dX5_day_284 : decode cX5_day 284 = .ok (.iadd, 1) := by decide +kernel
theorem dX5_day_285 : decode cX5_day 285 = .ok (.putfield 91, 3) := by decide +kernel
theorem dX5_day_288 : decode cX5_day 288 = .ok (.iinc 3 1, 3) := by decide +kernel
theorem dX5_day_291 : decode cX5_day 291 = .ok (.goto (-163), 3) := by decide +kernel
theorem dX5_day_294 : decode cX5_day 294 = .ok (.aload_n 0, 1) := by decide +kernel
theorem dX5_day_295 : decode cX5_day 295 = .ok (.aload_n 1, 1) := by decide +kernel
theorem dX5_day_296 : decode cX5_day 296 = .ok (.bipush 14, 2) := by decide +kernel
theorem dX5_day_298 : decode cX5_day 298 = .ok (.iaload, 1) := by decide +kernel
theorem dX5_day_299 : decode cX5_day 299 = .ok (.putfield 104, 3) := by decide +kernel
theorem dX5_day_302 : decode cX5_day 302 = .ok (.aload_n 0, 1) := by decide +kernel
theorem dX5_day_303 : decode cX5_day 303 = .ok (.dup, 1) := by decide +kernel
theorem dX5_day_304 : decode cX5_day 304 = .ok (.getfield 85, 3) := by decide +kernel
theorem dX5_day_307 : decode cX5_day 307 = .ok (.aload_n 1, 1) := by decide +kernel
theorem dX5_day_308 : decode cX5_day 308 = .ok (.bipush 6, 2) := by decide +kernel
theorem dX5_day_310 : decode cX5_day 310 = .ok (.iaload, 1) := by decide +kernel
theorem dX5_day_311 : decode cX5_day 311 = .ok (.aload_n 0, 1) := by decide +kernel
theorem dX5_day_312 : decode cX5_day 312 = .ok (.getfield 91, 3) := by decide +kernel
theorem dX5_day_315 : decode cX5_day 315 = .ok (.imul, 1) := by decide +kernel
theorem dX5_day_316 : decode cX5_day 316 = .ok (.aload_n 1, 1) := by decide +kernel
theorem dX5_day_317 : decode cX5_day 317 = .ok (.iconst 5, 1) := by decide +kernel
theorem dX5_day_318 : decode cX5_day 318 = .ok (.iaload, 1) := by decide +kernel
theorem dX5_day_319 : decode cX5_day 319 = .ok (.aload_n 0, 1) := by decide +kernel
theorem dX5_day_320 : decode cX5_day 320 = .ok (.getfield 104, 3) := by decide +kernel
theorem dX5_day_323 : decode cX5_day 323 = .ok (.imul, 1) := by decide +kernel
theorem dX5_day_324 : decode cX5_day 324 = .ok (.iadd, 1) := by decide +kernel
theorem dX5_day_325 : decode cX5_day 325 = .ok (.isub, 1) := by decide +kernel
theorem dX5_day_326 : decode cX5_day 326 = .ok (.putfield 85, 3) := by decide +kernel
theorem dX5_day_329 : decode cX5_day 329 = .ok (.iconst 4, 1) := by decide +kernel
theorem dX5_day_330 : decode cX5_day 330 = .ok (.istore_n 3, 1) := by decide +kernel
theorem dX5_day_331 : decode cX5_day 331 = .ok (.iload_n 3, 1) := by decide +kernel
theorem dX5_day_332 : decode cX5_day 332 = .ok (.ifCond .le 23, 3) := by decide +kernel
theorem dX5_day_335 : decode cX5_day 335 = .ok (.aload_n 1, 1) := by decide +kernel
theorem dX5_day_336 : decode cX5_day 336 = .ok (.bipush 10, 2) := by decide +kernel
theorem dX5_day_338 : decode cX5_day 338 = .ok (.iload_n 3, 1) := by decide +kernel
theorem dX5_day_339 : decode cX5_day 339 = .ok (.iadd, 1) := by decide +kernel
theorem dX5_day_340 : decode cX5_day 340 = .ok (.aload_n 1, 1) := by decide +kernel
theorem dX5_day_341 : decode cX5_day 341 = .ok (.bipush 10, 2) := by decide +kernel
theorem dX5_day_343 : decode cX5_day 343 = .ok (.iload_n 3, 1) := by decide +kernel
theorem dX5_day_344 : decode cX5_day 344 = .ok (.iadd, 1) := by decide +kernel
theorem dX5_day_345 : decode cX5_day 345 = .ok (.iconst 1, 1) := by decide +kernel
theorem dX5_day_346 : decode cX5_day 346 = .ok (.isub, 1) := by decide +kernel
theorem dX5_day_347 : decode cX5_day 347 = .ok (.iaload, 1) := by decide +kernel
theorem dX5_day_348 : decode cX5_day 348 = .ok (.iastore, 1) := by decide +kernel
theorem dX5_day_349 : decode cX5_day 349 = .ok (.iinc 3 (-1), 3) := by decide +kernel
theorem dX5_day_352 : decode cX5_day 352 = .ok (.goto (-21), 3) := by decide +kernel
theorem dX5_day_355 : decode cX5_day 355 = .ok (.aload_n 1, 1) := by decide +kernel
theorem dX5_day_356 : decode cX5_day 356 = .ok (.bipush 10, 2) := by decide +kernel
theorem dX5_day_358 : decode cX5_day 358 = .ok (.iconst 0, 1) := by decide +kernel
theorem dX5_day_359 : decode cX5_day 359 = .ok (.iastore, 1) := by decide +kernel
theorem dX5_day_360 : decode cX5_day 360 = .ok (.aload_n 1, 1) := by decide +kernel
theorem dX5_day_361 : decode cX5_day 361 = .ok (.iconst 1, 1) := by decide +kernel
theorem dX5_day_362 : decode cX5_day 362 = .ok (.dup2, 1) := by decide +kernel
theorem dX5_day_363 : decode cX5_day 363 = .ok (.iaload, 1) := by decide +kernel
theorem dX5_day_364 : decode cX5_day 364 = .ok (.iconst 1, 1) := by decide +kernel
theorem dX5_day_365 : decode cX5_day 365 = .ok (.iadd, 1) := by decide +kernel
theorem dX5_day_366 : decode cX5_day 366 = .ok (.iastore, 1) := by decide +kernel
theorem dX5_day_367 : decode cX5_day 367 = .ok (.return_, 1) := by decide +kernel
theorem dX5_asTold_0 : decode cX5_asTold 0 = .ok (.iconst 0, 1) := by decide +kernel
theorem dX5_asTold_1 : decode cX5_asTold 1 = .ok (.istore_n 2, 1) := by decide +kernel
theorem dX5_asTold_2 : decode cX5_asTold 2 = .ok (.iload_n 2, 1) := by decide +kernel
theorem dX5_asTold_3 : decode cX5_asTold 3 = .ok (.aload_n 1, 1) := by decide +kernel
theorem dX5_asTold_4 : decode cX5_asTold 4 = .ok (.iconst 0, 1) := by decide +kernel
theorem dX5_asTold_5 : decode cX5_asTold 5 = .ok (.iaload, 1) := by decide +kernel
theorem dX5_asTold_6 : decode cX5_asTold 6 = .ok (.if_icmp .ge 25, 3) := by decide +kernel
theorem dX5_asTold_9 : decode cX5_asTold 9 = .ok (.aload_n 0, 1) := by decide +kernel
theorem dX5_asTold_10 : decode cX5_asTold 10 = .ok (.getfield 22, 3) := by decide +kernel
theorem dX5_asTold_13 : decode cX5_asTold 13 = .ok (.iload_n 2, 1) := by decide +kernel
theorem dX5_asTold_14 : decode cX5_asTold 14 = .ok (.aload_n 1, 1) := by decide +kernel
theorem dX5_asTold_15 : decode cX5_asTold 15 = .ok (.bipush 30, 2) := by decide +kernel
theorem dX5_asTold_17 : decode cX5_asTold 17 = .ok (.iconst 4, 1) := by decide +kernel
theorem dX5_asTold_18 : decode cX5_asTold 18 = .ok (.iload_n 2, 1) := by decide +kernel
theorem dX5_asTold_19 : decode cX5_asTold 19 = .ok (.imul, 1) := by decide +kernel
theorem dX5_asTold_20 : decode cX5_asTold 20 = .ok (.iadd, 1) := by decide +kernel
theorem dX5_asTold_21 : decode cX5_asTold 21 = .ok (.iconst 1, 1) := by decide +kernel
theorem dX5_asTold_22 : decode cX5_asTold 22 = .ok (.iadd, 1) := by decide +kernel
theorem dX5_asTold_23 : decode cX5_asTold 23 = .ok (.iaload, 1) := by decide +kernel
theorem dX5_asTold_24 : decode cX5_asTold 24 = .ok (.iastore, 1) := by decide +kernel
theorem dX5_asTold_25 : decode cX5_asTold 25 = .ok (.iinc 2 1, 3) := by decide +kernel
theorem dX5_asTold_28 : decode cX5_asTold 28 = .ok (.goto (-26), 3) := by decide +kernel
theorem dX5_asTold_31 : decode cX5_asTold 31 = .ok (.return_, 1) := by decide +kernel
theorem dX5_goOn_0 : decode cX5_goOn 0 = .ok (.aload_n 0, 1) := by decide +kernel
theorem dX5_goOn_1 : decode cX5_goOn 1 = .ok (.aload_n 0, 1) := by decide +kernel
theorem dX5_goOn_2 : decode cX5_goOn 2 = .ok (.getfield 16, 3) := by decide +kernel
theorem dX5_goOn_5 : decode cX5_goOn 5 = .ok (.invokevirtual 107, 3) := by decide +kernel
theorem dX5_goOn_8 : decode cX5_goOn 8 = .ok (.iconst 0, 1) := by decide +kernel
theorem dX5_goOn_9 : decode cX5_goOn 9 = .ok (.istore_n 3, 1) := by decide +kernel
theorem dX5_goOn_10 : decode cX5_goOn 10 = .ok (.iload_n 3, 1) := by decide +kernel
theorem dX5_goOn_11 : decode cX5_goOn 11 = .ok (.bipush 6, 2) := by decide +kernel
theorem dX5_goOn_13 : decode cX5_goOn 13 = .ok (.if_icmp .ge 16, 3) := by decide +kernel
theorem dX5_goOn_16 : decode cX5_goOn 16 = .ok (.aload_n 0, 1) := by decide +kernel
theorem dX5_goOn_17 : decode cX5_goOn 17 = .ok (.getfield 28, 3) := by decide +kernel
theorem dX5_goOn_20 : decode cX5_goOn 20 = .ok (.iload_n 3, 1) := by decide +kernel
theorem dX5_goOn_21 : decode cX5_goOn 21 = .ok (.iconst 0, 1) := by decide +kernel
theorem dX5_goOn_22 : decode cX5_goOn 22 = .ok (.iastore, 1) := by decide +kernel
theorem dX5_goOn_23 : decode cX5_goOn 23 = .ok (.iinc 3 1, 3) := by decide +kernel
theorem dX5_goOn_26 : decode cX5_goOn 26 = .ok (.goto (-16), 3) := by decide +kernel
theorem dX5_goOn_29 : decode cX5_goOn 29 = .ok (.iload_n 2, 1) := by decide +kernel
theorem dX5_goOn_30 : decode cX5_goOn 30 = .ok (.istore_n 3, 1) := by decide +kernel
theorem dX5_goOn_31 : decode cX5_goOn 31 = .ok (.iconst 0, 1) := by decide +kernel
theorem dX5_goOn_32 : decode cX5_goOn 32 = .ok (.istore 4, 2) := by decide +kernel
theorem dX5_goOn_34 : decode cX5_goOn 34 = .ok (.iload 4, 2) := by decide +kernel
theorem dX5_goOn_36 : decode cX5_goOn 36 = .ok (.iload_n 1, 1) := by decide +kernel
theorem dX5_goOn_37 : decode cX5_goOn 37 = .ok (.if_icmp .ge 144, 3) := by decide +kernel
theorem dX5_goOn_40 : decode cX5_goOn 40 = .ok (.aload_n 0, 1) := by decide +kernel
theorem dX5_goOn_41 : decode cX5_goOn 41 = .ok (.getfield 16, 3) := by decide +kernel
theorem dX5_goOn_44 : decode cX5_goOn 44 = .ok (.bipush 20, 2) := by decide +kernel
theorem dX5_goOn_46 : decode cX5_goOn 46 = .ok (.aload_n 0, 1) := by decide +kernel
theorem dX5_goOn_47 : decode cX5_goOn 47 = .ok (.getfield 16, 3) := by decide +kernel
theorem dX5_goOn_50 : decode cX5_goOn 50 = .ok (.iconst 1, 1) := by decide +kernel
theorem dX5_goOn_51 : decode cX5_goOn 51 = .ok (.iaload, 1) := by decide +kernel
theorem dX5_goOn_52 : decode cX5_goOn 52 = .ok (.bipush 7, 2) := by decide +kernel
theorem dX5_goOn_54 : decode cX5_goOn 54 = .ok (.irem, 1) := by decide +kernel
theorem dX5_goOn_55 : decode cX5_goOn 55 = .ok (.iadd, 1) := by decide +kernel
theorem dX5_goOn_56 : decode cX5_goOn 56 = .ok (.iaload, 1) := by decide +kernel
theorem dX5_goOn_57 : decode cX5_goOn 57 = .ok (.iconst 1, 1) := by decide +kernel
theorem dX5_goOn_58 : decode cX5_goOn 58 = .ok (.if_icmp .ne 7, 3) := by decide +kernel
theorem dX5_goOn_61 : decode cX5_goOn 61 = .ok (.iconst 1, 1) := by decide +kernel
theorem dX5_goOn_62 : decode cX5_goOn 62 = .ok (.goto 4, 3) := by decide +kernel
theorem dX5_goOn_65 : decode cX5_goOn 65 = .ok (.iconst 0, 1) := by decide +kernel
theorem dX5_goOn_66 : decode cX5_goOn 66 = .ok (.istore 5, 2) := by decide +kernel
theorem dX5_goOn_68 : decode cX5_goOn 68 = .ok (.aload_n 0, 1) := by decide +kernel
theorem dX5_goOn_69 : decode cX5_goOn 69 = .ok (.aload_n 0, 1) := by decide +kernel
theorem dX5_goOn_70 : decode cX5_goOn 70 = .ok (.getfield 16, 3) := by decide +kernel
theorem dX5_goOn_73 : decode cX5_goOn 73 = .ok (.iload 5, 2) := by decide +kernel
theorem dX5_goOn_75 : decode cX5_goOn 75 = .ok (.ifCond .eq 7, 3) := by decide +kernel
theorem dX5_goOn_78 : decode cX5_goOn 78 = .ok (.iload_n 3, 1) := by decide +kernel
theorem dX5_goOn_79 : decode cX5_goOn 79 = .ok (.goto 4, 3) := by decide +kernel
theorem dX5_goOn_82 : decode cX5_goOn 82 = .ok (.iconst 0, 1) := by decide +kernel
theorem dX5_goOn_83 : decode cX5_goOn 83 = .ok (.invokevirtual 111, 3) := by decide +kernel
theorem dX5_goOn_86 : decode cX5_goOn 86 = .ok (.iload 5, 2) := by decide +kernel
theorem dX5_goOn_88 : decode cX5_goOn 88 = .ok (.ifCond .eq 7, 3) := by decide +kernel
theorem dX5_goOn_91 : decode cX5_goOn 91 = .ok (.iconst 0, 1) := by decide +kernel
theorem dX5_goOn_92 : decode cX5_goOn 92 = .ok (.goto 4, 3) := by decide +kernel
theorem dX5_goOn_95 : decode cX5_goOn 95 = .ok (.iload_n 3, 1) := by decide +kernel
theorem dX5_goOn_96 : decode cX5_goOn 96 = .ok (.istore_n 3, 1) := by decide +kernel
theorem dX5_goOn_97 : decode cX5_goOn 97 = .ok (.aload_n 0, 1) := by decide +kernel
theorem dX5_goOn_98 : decode cX5_goOn 98 = .ok (.getfield 28, 3) := by decide +kernel
theorem dX5_goOn_101 : decode cX5_goOn 101 = .ok (.iconst 0, 1) := by decide +kernel
theorem dX5_goOn_102 : decode cX5_goOn 102 = .ok (.dup2, 1) := by decide +kernel
theorem dX5_goOn_103 : decode cX5_goOn 103 = .ok (.iaload, 1) := by decide +kernel
theorem dX5_goOn_104 : decode cX5_goOn 104 = .ok (.aload_n 0, 1) := by decide +kernel
theorem dX5_goOn_105 : decode cX5_goOn 105 = .ok (.getfield 85, 3) := by decide +kernel
theorem dX5_goOn_108 : decode cX5_goOn 108 = .ok (.iadd, 1) := by decide +kernel
theorem dX5_goOn_109 : decode cX5_goOn 109 = .ok (.iastore, 1) := by decide +kernel
theorem dX5_goOn_110 : decode cX5_goOn 110 = .ok (.aload_n 0, 1) := by decide +kernel
theorem dX5_goOn_111 : decode cX5_goOn 111 = .ok (.getfield 28, 3) := by decide +kernel
theorem dX5_goOn_114 : decode cX5_goOn 114 = .ok (.iconst 1, 1) := by decide +kernel
theorem dX5_goOn_115 : decode cX5_goOn 115 = .ok (.dup2, 1) := by decide +kernel
theorem dX5_goOn_116 : decode cX5_goOn 116 = .ok (.iaload, 1) := by decide +kernel
theorem dX5_goOn_117 : decode cX5_goOn 117 = .ok (.aload_n 0, 1) := by decide +kernel
theorem dX5_goOn_118 : decode cX5_goOn 118 = .ok (.getfield 94, 3) := by decide +kernel
theorem dX5_goOn_121 : decode cX5_goOn 121 = .ok (.iadd, 1) := by decide +kernel
theorem dX5_goOn_122 : decode cX5_goOn 122 = .ok (.iastore, 1) := by decide +kernel
theorem dX5_goOn_123 : decode cX5_goOn 123 = .ok (.aload_n 0, 1) := by decide +kernel
theorem dX5_goOn_124 : decode cX5_goOn 124 = .ok (.getfield 28, 3) := by decide +kernel
theorem dX5_goOn_127 : decode cX5_goOn 127 = .ok (.iconst 2, 1) := by decide +kernel
theorem dX5_goOn_128 : decode cX5_goOn 128 = .ok (.dup2, 1) := by decide +kernel
theorem dX5_goOn_129 : decode cX5_goOn 129 = .ok (.iaload, 1) := by decide +kernel
theorem dX5_goOn_130 : decode cX5_goOn 130 = .ok (.aload_n 0, 1) := by decide +kernel
theorem dX5_goOn_131 : decode cX5_goOn 131 = .ok (.getfield 88, 3) := by decide +kernel
theorem dX5_goOn_134 : decode cX5_goOn 134 = .ok (.iadd, 1) := by decide +kernel
theorem dX5_goOn_135 : decode cX5_goOn 135 = .ok (.iastore, 1) := by decide +kernel
theorem dX5_goOn_136 : decode cX5_goOn 136 = .ok (.aload_n 0, 1) := by decide +kernel
theorem dX5_goOn_137 : decode cX5_goOn 137 = .ok (.getfield 28, 3) := by decide +kernel
theorem dX5_goOn_140 : decode cX5_goOn 140 = .ok (.iconst 3, 1) := by decide +kernel
theorem dX5_goOn_141 : decode cX5_goOn 141 = .ok (.dup2, 1) := by decide +kernel
theorem dX5_goOn_142 : decode cX5_goOn 142 = .ok (.iaload, 1) := by decide +kernel
theorem dX5_goOn_143 : decode cX5_goOn 143 = .ok (.aload_n 0, 1) := by decide +kernel
theorem dX5_goOn_144 : decode cX5_goOn 144 = .ok (.getfield 104, 3) := by decide +kernel
theorem dX5_goOn_147 : decode cX5_goOn 147 = .ok (.iadd, 1) := by decide +kernel
theorem dX5_goOn_148 : decode cX5_goOn 148 = .ok (.iastore, 1) := by decide +kernel
theorem dX5_goOn_149 : decode cX5_goOn 149 = .ok (.aload_n 0, 1) := by decide +kernel
theorem dX5_goOn_150 : decode cX5_goOn 150 = .ok (.getfield 28, 3) := by decide +kernel
theorem dX5_goOn_153 : decode cX5_goOn 153 = .ok (.iconst 4, 1) := by decide +kernel
theorem dX5_goOn_154 : decode cX5_goOn 154 = .ok (.dup2, 1) := by decide +kernel
theorem dX5_goOn_155 : decode cX5_goOn 155 = .ok (.iaload, 1) := by decide +kernel
theorem dX5_goOn_156 : decode cX5_goOn 156 = .ok (.aload_n 0, 1) := by decide +kernel
theorem dX5_goOn_157 : decode cX5_goOn 157 = .ok (.getfield 91, 3) := by decide +kernel
theorem dX5_goOn_160 : decode cX5_goOn 160 = .ok (.iadd, 1) := by decide +kernel
theorem dX5_goOn_161 : decode cX5_goOn 161 = .ok (.iastore, 1) := by decide +kernel
theorem dX5_goOn_162 : decode cX5_goOn 162 = .ok (.aload_n 0, 1) := by decide +kernel
theorem dX5_goOn_163 : decode cX5_goOn 163 = .ok (.getfield 28, 3) := by decide +kernel
theorem dX5_goOn_166 : decode cX5_goOn 166 = .ok (.iconst 5, 1) := by decide +kernel
theorem dX5_goOn_167 : decode cX5_goOn 167 = .ok (.dup2, 1) := by decide +kernel
theorem dX5_goOn_168 : decode cX5_goOn 168 = .ok (.iaload, 1) := by decide +kernel
theorem dX5_goOn_169 : decode cX5_goOn 169 = .ok (.aload_n 0, 1) := by decide +kernel
theorem dX5_goOn_170 : decode cX5_goOn 170 = .ok (.getfield 81, 3) := by decide +kernel
theorem dX5_goOn_173 : decode cX5_goOn 173 = .ok (.iadd, 1) := by decide +kernel
theorem dX5_goOn_174 : decode cX5_goOn 174 = .ok (.iastore, 1) := by decide +kernel
theorem dX5_goOn_175 : decode cX5_goOn 175 = .ok (.iinc 4 1, 3) := by decide +kernel
theorem dX5_goOn_178 : decode cX5_goOn 178 = .ok (.goto (-144), 3) := by decide +kernel
theorem dX5_goOn_181 : decode cX5_goOn 181 = .ok (.return_, 1) := by decide +kernel
theorem dX5_valueOf_0 : decode cX5_valueOf 0 = .ok (.aload_n 0, 1) := by decide +kernel
theorem dX5_valueOf_1 : decode cX5_valueOf 1 = .ok (.iload_n 1, 1) := by decide +kernel
theorem dX5_valueOf_2 : decode cX5_valueOf 2 = .ok (.iconst 0, 1) := by decide +kernel
theorem dX5_valueOf_3 : decode cX5_valueOf 3 = .ok (.invokevirtual 115, 3) := by decide +kernel
theorem dX5_valueOf_6 : decode cX5_valueOf 6 = .ok (.aload_n 0, 1) := by decide +kernel
theorem dX5_valueOf_7 : decode cX5_valueOf 7 = .ok (.getfield 28, 3) := by decide +kernel
theorem dX5_valueOf_10 : decode cX5_valueOf 10 = .ok (.iconst 0, 1) := by decide +kernel
theorem dX5_valueOf_11 : decode cX5_valueOf 11 = .ok (.iaload, 1) := by decide +kernel
theorem dX5_valueOf_12 : decode cX5_valueOf 12 = .ok (.ireturn, 1) := by decide +kernel
theorem dX5_letter_0 : decode cX5_letter 0 = .ok (.iload_n 1, 1) := by decide +kernel
theorem dX5_letter_1 : decode cX5_letter 1 = .ok (.ifCond .ge 10, 3) := by decide +kernel
theorem dX5_letter_4 : decode cX5_letter 4 = .ok (.aload_n 0, 1) := by decide +kernel
theorem dX5_letter_5 : decode cX5_letter 5 = .ok (.bipush (-4), 2) := by decide +kernel
theorem dX5_letter_7 : decode cX5_letter 7 = .ok (.invokevirtual 64, 3) := by decide +kernel
theorem dX5_letter_10 : decode cX5_letter 10 = .ok (.ireturn, 1) := by decide +kernel
theorem dX5_letter_11 : decode cX5_letter 11 = .ok (.iload_n 1, 1) := by decide +kernel
theorem dX5_letter_12 : decode cX5_letter 12 = .ok (.sipush 255, 3) := by decide +kernel
theorem dX5_letter_15 : decode cX5_letter 15 = .ok (.if_icmp .gt 12, 3) := by decide +kernel
theorem dX5_letter_18 : decode cX5_letter 18 = .ok (.aload_n 0, 1) := by decide +kernel
theorem dX5_letter_19 : decode cX5_letter 19 = .ok (.getfield 119, 3) := by decide +kernel
theorem dX5_letter_22 : decode cX5_letter 22 = .ok (.bipush 96, 2) := by decide +kernel
theorem dX5_letter_24 : decode cX5_letter 24 = .ok (.if_icmp .ne 10, 3) := by decide +kernel
theorem dX5_letter_27 : decode cX5_letter 27 = .ok (.aload_n 0, 1) := by decide +kernel
theorem dX5_letter_28 : decode cX5_letter 28 = .ok (.bipush (-6), 2) := by decide +kernel
theorem dX5_letter_30 : decode cX5_letter 30 = .ok (.invokevirtual 64, 3) := by decide +kernel
theorem dX5_letter_33 : decode cX5_letter 33 = .ok (.ireturn, 1) := by decide +kernel
theorem dX5_letter_34 : decode cX5_letter 34 = .ok (.aload_n 0, 1) := by decide +kernel
theorem dX5_letter_35 : decode cX5_letter 35 = .ok (.getfield 31, 3) := by decide +kernel
theorem dX5_letter_38 : decode cX5_letter 38 = .ok (.aload_n 0, 1) := by decide +kernel
theorem dX5_letter_39 : decode cX5_letter 39 = .ok (.getfield 119, 3) := by decide +kernel
theorem dX5_letter_42 : decode cX5_letter 42 = .ok (.iload_n 1, 1) := by decide +kernel
theorem dX5_letter_43 : decode cX5_letter 43 = .ok (.iastore, 1) := by decide +kernel
theorem dX5_letter_44 : decode cX5_letter 44 = .ok (.aload_n 0, 1) := by decide +kernel
theorem dX5_letter_45 : decode cX5_letter 45 = .ok (.dup, 1) := by decide +kernel
theorem dX5_letter_46 : decode cX5_letter 46 = .ok (.getfield 119, 3) := by decide +kernel
theorem dX5_letter_49 : decode cX5_letter 49 = .ok (.iconst 1, 1) := by decide +kernel
theorem dX5_letter_50 : decode cX5_letter 50 = .ok (.iadd, 1) := by decide +kernel
theorem dX5_letter_51 : decode cX5_letter 51 = .ok (.putfield 119, 3) := by decide +kernel
theorem dX5_letter_54 : decode cX5_letter 54 = .ok (.aload_n 0, 1) := by decide +kernel
theorem dX5_letter_55 : decode cX5_letter 55 = .ok (.getfield 119, 3) := by decide +kernel
theorem dX5_letter_58 : decode cX5_letter 58 = .ok (.ireturn, 1) := by decide +kernel
theorem dX5_oneOf_0 : decode cX5_oneOf 0 = .ok (.iconst 0, 1) := by decide +kernel
theorem dX5_oneOf_1 : decode cX5_oneOf 1 = .ok (.istore_n 2, 1) := by decide +kernel
theorem dX5_oneOf_2 : decode cX5_oneOf 2 = .ok (.iload_n 2, 1) := by decide +kernel
theorem dX5_oneOf_3 : decode cX5_oneOf 3 = .ok (.aload_n 1, 1) := by decide +kernel
theorem dX5_oneOf_4 : decode cX5_oneOf 4 = .ok (.arraylength, 1) := by decide +kernel
theorem dX5_oneOf_5 : decode cX5_oneOf 5 = .ok (.if_icmp .ge 54, 3) := by decide +kernel
theorem dX5_oneOf_8 : decode cX5_oneOf 8 = .ok (.aload_n 0, 1) := by decide +kernel
theorem dX5_oneOf_9 : decode cX5_oneOf 9 = .ok (.getfield 122, 3) := by decide +kernel
theorem dX5_oneOf_12 : decode cX5_oneOf 12 = .ok (.ifCond .eq 41, 3) := by decide +kernel
theorem dX5_oneOf_15 : decode cX5_oneOf 15 = .ok (.aload_n 0, 1) := by decide +kernel
theorem dX5_oneOf_16 : decode cX5_oneOf 16 = .ok (.getfield 125, 3) := by decide +kernel
theorem dX5_oneOf_19 : decode cX5_oneOf 19 = .ok (.aload_n 0, 1) := by decide +kernel
theorem dX5_oneOf_20 : decode cX5_oneOf 20 = .ok (.getfield 119, 3) := by decide +kernel
theorem dX5_oneOf_23 : decode cX5_oneOf 23 = .ok (.if_icmp .ge 30, 3) := by decide +kernel
theorem dX5_oneOf_26 : decode cX5_oneOf 26 = .ok (.aload_n 0, 1) := by decide +kernel
theorem dX5_oneOf_27 : decode cX5_oneOf 27 = .ok (.getfield 31, 3) := by decide +kernel
theorem dX5_oneOf_30 : decode cX5_oneOf 30 = .ok (.aload_n 0, 1) := by decide +kernel
theorem dX5_oneOf_31 : decode cX5_oneOf 31 = .ok (.getfield 125, 3) := by decide +kernel
theorem dX5_oneOf_34 : decode cX5_oneOf 34 = .ok (.iaload, 1) := by decide +kernel
theorem dX5_oneOf_35 : decode cX5_oneOf 35 = .ok (.aload_n 1, 1) := by decide +kernel
theorem dX5_oneOf_36 : decode cX5_oneOf 36 = .ok (.iload_n 2, 1) := by decide +kernel
theorem dX5_oneOf_37 : decode cX5_oneOf 37 = .ok (.caload, 1) := by decide +kernel
theorem dX5_oneOf_38 : decode cX5_oneOf 38 = .ok (.if_icmp .ne 15, 3) := by decide +kernel
theorem dX5_oneOf_41 : decode cX5_oneOf 41 = .ok (.aload_n 0, 1) := by decide +kernel
theorem dX5_oneOf_42 : decode cX5_oneOf 42 = .ok (.dup, 1) := by decide +kernel
theorem dX5_oneOf_43 : decode cX5_oneOf 43 = .ok (.getfield 125, 3) := by decide +kernel
theorem dX5_oneOf_46 : decode cX5_oneOf 46 = .ok (.iconst 1, 1) := by decide +kernel
theorem dX5_oneOf_47 : decode cX5_oneOf 47 = .ok (.iadd, 1) := by decide +kernel
theorem dX5_oneOf_48 : decode cX5_oneOf 48 = .ok (.putfield 125, 3) := by decide +kernel
theorem dX5_oneOf_51 : decode cX5_oneOf 51 = .ok (.iload_n 2, 1) := by decide +kernel
theorem dX5_oneOf_52 : decode cX5_oneOf 52 = .ok (.ireturn, 1) := by decide +kernel
theorem dX5_oneOf_53 : decode cX5_oneOf 53 = .ok (.iinc 2 1, 3) := by decide +kernel
theorem dX5_oneOf_56 : decode cX5_oneOf 56 = .ok (.goto (-54), 3) := by decide +kernel
theorem dX5_oneOf_59 : decode cX5_oneOf 59 = .ok (.aload_n 0, 1) := by decide +kernel
theorem dX5_oneOf_60 : decode cX5_oneOf 60 = .ok (.iconst 0, 1) := by decide +kernel
theorem dX5_oneOf_61 : decode cX5_oneOf 61 = .ok (.putfield 122, 3) := by decide +kernel
theorem dX5_oneOf_64 : decode cX5_oneOf 64 = .ok (.iconst 0, 1) := by decide +kernel
theorem dX5_oneOf_65 : decode cX5_oneOf 65 = .ok (.ireturn, 1) := by decide +kernel
theorem dX5_figures_0 : decode cX5_figures 0 = .ok (.iconst 0, 1) := by decide +kernel
theorem dX5_figures_1 : decode cX5_figures 1 = .ok (.istore_n 3, 1) := by decide +kernel
theorem dX5_figures_2 : decode cX5_figures 2 = .ok (.iconst 0, 1) := by decide +kernel
theorem dX5_figures_3 : decode cX5_figures 3 = .ok (.istore 4, 2) := by decide +kernel
theorem dX5_figures_5 : decode cX5_figures 5 = .ok (.aload_n 0, 1) := by decide +kernel
theorem dX5_figures_6 : decode cX5_figures 6 = .ok (.getfield 122, 3) := by decide +kernel
theorem dX5_figures_9 : decode cX5_figures 9 = .ok (.ifCond .eq 82, 3) := by decide +kernel
theorem dX5_figures_12 : decode cX5_figures 12 = .ok (.iload 4, 2) := by decide +kernel
theorem dX5_figures_14 : decode cX5_figures 14 = .ok (.iload_n 2, 1) := by decide +kernel
theorem dX5_figures_15 : decode cX5_figures 15 = .ok (.if_icmp .ge 76, 3) := by decide +kernel
theorem dX5_figures_18 : decode cX5_figures 18 = .ok (.aload_n 0, 1) := by decide +kernel
theorem dX5_figures_19 : decode cX5_figures 19 = .ok (.getfield 125, 3) := by decide +kernel
theorem dX5_figures_22 : decode cX5_figures 22 = .ok (.aload_n 0, 1) := by decide +kernel
theorem dX5_figures_23 : decode cX5_figures 23 = .ok (.getfield 119, 3) := by decide +kernel
theorem dX5_figures_26 : decode cX5_figures 26 = .ok (.if_icmp .ge 65, 3) := by decide +kernel
theorem dX5_figures_29 : decode cX5_figures 29 = .ok (.aload_n 0, 1) := by decide +kernel
theorem dX5_figures_30 : decode cX5_figures 30 = .ok (.getfield 31, 3) := by decide +kernel
theorem dX5_figures_33 : decode cX5_figures 33 = .ok (.aload_n 0, 1) := by decide +kernel
theorem dX5_figures_34 : decode cX5_figures 34 = .ok (.getfield 125, 3) := by decide +kernel
theorem dX5_figures_37 : decode cX5_figures 37 = .ok (.iaload, 1) := by decide +kernel
theorem dX5_figures_38 : decode cX5_figures 38 = .ok (.bipush 48, 2) := by decide +kernel
theorem dX5_figures_40 : decode cX5_figures 40 = .ok (.if_icmp .lt 51, 3) := by decide +kernel
theorem dX5_figures_43 : decode cX5_figures 43 = .ok (.aload_n 0, 1) := by decide +kernel
theorem dX5_figures_44 : decode cX5_figures 44 = .ok (.getfield 31, 3) := by decide +kernel
theorem dX5_figures_47 : decode cX5_figures 47 = .ok (.aload_n 0, 1) := by decide +kernel
theorem dX5_figures_48 : decode cX5_figures 48 = .ok (.getfield 125, 3) := by decide +kernel
theorem dX5_figures_51 : decode cX5_figures 51 = .ok (.iaload, 1) := by decide +kernel
theorem dX5_figures_52 : decode cX5_figures 52 = .ok (.bipush 57, 2) := by decide +kernel
theorem dX5_figures_54 : decode cX5_figures 54 = .ok (.if_icmp .gt 37, 3) := by decide +kernel
theorem dX5_figures_57 : decode cX5_figures 57 = .ok (.bipush 10, 2) := by decide +kernel
theorem dX5_figures_59 : decode cX5_figures 59 = .ok (.iload_n 3, 1) := by decide +kernel
theorem dX5_figures_60 : decode cX5_figures 60 = .ok (.imul, 1) := by decide +kernel
theorem dX5_figures_61 : decode cX5_figures 61 = .ok (.aload_n 0, 1) := by decide +kernel
theorem dX5_figures_62 : decode cX5_figures 62 = .ok (.getfield 31, 3) := by decide +kernel
theorem dX5_figures_65 : decode cX5_figures 65 = .ok (.aload_n 0, 1) := by decide +kernel
theorem dX5_figures_66 : decode cX5_figures 66 = .ok (.getfield 125, 3) := by decide +kernel
theorem dX5_figures_69 : decode cX5_figures 69 = .ok (.iaload, 1) := by decide +kernel
theorem dX5_figures_70 : decode cX5_figures 70 = .ok (.iadd, 1) := by decide +kernel
theorem dX5_figures_71 : decode cX5_figures 71 = .ok (.bipush 48, 2) := by decide +kernel
theorem dX5_figures_73 : decode cX5_figures 73 = .ok (.isub, 1) := by decide +kernel
theorem dX5_figures_74 : decode cX5_figures 74 = .ok (.istore_n 3, 1) := by decide +kernel
theorem dX5_figures_75 : decode cX5_figures 75 = .ok (.aload_n 0, 1) := by decide +kernel
theorem dX5_figures_76 : decode cX5_figures 76 = .ok (.dup, 1) := by decide +kernel
theorem dX5_figures_77 : decode cX5_figures 77 = .ok (.getfield 125, 3) := by decide +kernel
theorem dX5_figures_80 : decode cX5_figures 80 = .ok (.iconst 1, 1) := by decide +kernel
theorem dX5_figures_81 : decode cX5_figures 81 = .ok (.iadd, 1) := by decide +kernel
theorem dX5_figures_82 : decode cX5_figures 82 = .ok (.putfield 125, 3) := by decide +kernel
theorem dX5_figures_85 : decode cX5_figures 85 = .ok (.iinc 4 1, 3) := by decide +kernel
theorem dX5_figures_88 : decode cX5_figures 88 = .ok (.goto (-83), 3) := by decide +kernel
theorem dX5_figures_91 : decode cX5_figures 91 = .ok (.aload_n 0, 1) := by decide +kernel
theorem dX5_figures_92 : decode cX5_figures 92 = .ok (.aload_n 0, 1) := by decide +kernel
theorem dX5_figures_93 : decode cX5_figures 93 = .ok (.getfield 122, 3) := by decide +kernel
theorem dX5_figures_96 : decode cX5_figures 96 = .ok (.ifCond .eq 13, 3) := by decide +kernel
theorem dX5_figures_99 : decode cX5_figures 99 = .ok (.iload 4, 2) := by decide +kernel
theorem dX5_figures_101 : decode cX5_figures 101 = .ok (.iload_n 1, 1) := by decide +kernel
theorem dX5_figures_102 : decode cX5_figures 102 = .ok (.if_icmp .lt 7, 3) := by decide +kernel
theorem dX5_figures_105 : decode cX5_figures 105 = .ok (.iconst 1, 1) := by decide +kernel
theorem dX5_figures_106 : decode cX5_figures 106 = .ok (.goto 4, 3) := by decide +kernel
theorem dX5_figures_109 : decode cX5_figures 109 = .ok (.iconst 0, 1) := by decide +kernel
theorem dX5_figures_110 : decode cX5_figures 110 = .ok (.putfield 122, 3) := by decide +kernel
theorem dX5_figures_113 : decode cX5_figures 113 = .ok (.iload_n 3, 1) := by decide +kernel
theorem dX5_figures_114 : decode cX5_figures 114 = .ok (.ireturn, 1) := by decide +kernel
theorem dX5_statement_0 : decode cX5_statement 0 = .ok (.aload_n 0, 1) := by decide +kernel
theorem dX5_statement_1 : decode cX5_statement 1 = .ok (.aload_n 0, 1) := by decide +kernel
theorem dX5_statement_2 : decode cX5_statement 2 = .ok (.aload_n 0, 1) := by decide +kernel
theorem dX5_statement_3 : decode cX5_statement 3 = .ok (.getfield 34, 3) := by decide +kernel
theorem dX5_statement_6 : decode cX5_statement 6 = .ok (.invokevirtual 128, 3) := by decide +kernel
theorem dX5_statement_9 : decode cX5_statement 9 = .ok (.putfield 132, 3) := by decide +kernel
theorem dX5_statement_12 : decode cX5_statement 12 = .ok (.aload_n 0, 1) := by decide +kernel
theorem dX5_statement_13 : decode cX5_statement 13 = .ok (.getfield 132, 3) := by decide +kernel
theorem dX5_statement_16 : decode cX5_statement 16 = .ok (.tableswitch 223 0 5 #[40, 93, 120, 151, 178, 195], 40) := by decide +kernel
theorem dX5_statement_56 : decode cX5_statement 56 = .ok (.aload_n 0, 1) := by decide +kernel
theorem dX5_statement_57 : decode cX5_statement 57 = .ok (.getfield 47, 3) := by decide +kernel
theorem dX5_statement_60 : decode cX5_statement 60 = .ok (.iconst 0, 1) := by decide +kernel
theorem dX5_statement_61 : decode cX5_statement 61 = .ok (.aload_n 0, 1) := by decide +kernel
theorem dX5_statement_62 : decode cX5_statement 62 = .ok (.aload_n 0, 1) := by decide +kernel
theorem dX5_statement_63 : decode cX5_statement 63 = .ok (.getfield 38, 3) := by decide +kernel
theorem dX5_statement_66 : decode cX5_statement 66 = .ok (.invokevirtual 128, 3) := by decide +kernel
theorem dX5_statement_69 : decode cX5_statement 69 = .ok (.iastore, 1) := by decide +kernel
theorem dX5_statement_70 : decode cX5_statement 70 = .ok (.aload_n 0, 1) := by decide +kernel
theorem dX5_statement_71 : decode cX5_statement 71 = .ok (.getfield 47, 3) := by decide +kernel
theorem dX5_statement_74 : decode cX5_statement 74 = .ok (.iconst 1, 1) := by decide +kernel
theorem dX5_statement_75 : decode cX5_statement 75 = .ok (.aload_n 0, 1) := by decide +kernel
theorem dX5_statement_76 : decode cX5_statement 76 = .ok (.iconst 1, 1) := by decide +kernel
theorem dX5_statement_77 : decode cX5_statement 77 = .ok (.iconst 1, 1) := by decide +kernel
theorem dX5_statement_78 : decode cX5_statement 78 = .ok (.invokevirtual 135, 3) := by decide +kernel
theorem dX5_statement_81 : decode cX5_statement 81 = .ok (.iastore, 1) := by decide +kernel
theorem dX5_statement_82 : decode cX5_statement 82 = .ok (.aload_n 0, 1) := by decide +kernel
theorem dX5_statement_83 : decode cX5_statement 83 = .ok (.getfield 47, 3) := by decide +kernel
theorem dX5_statement_86 : decode cX5_statement 86 = .ok (.iconst 2, 1) := by decide +kernel
theorem dX5_statement_87 : decode cX5_statement 87 = .ok (.aload_n 0, 1) := by decide +kernel
theorem dX5_statement_88 : decode cX5_statement 88 = .ok (.iconst 1, 1) := by decide +kernel
theorem dX5_statement_89 : decode cX5_statement 89 = .ok (.iconst 1, 1) := by decide +kernel
theorem dX5_statement_90 : decode cX5_statement 90 = .ok (.invokevirtual 135, 3) := by decide +kernel
theorem dX5_statement_93 : decode cX5_statement 93 = .ok (.iastore, 1) := by decide +kernel
theorem dX5_statement_94 : decode cX5_statement 94 = .ok (.aload_n 0, 1) := by decide +kernel
theorem dX5_statement_95 : decode cX5_statement 95 = .ok (.getfield 47, 3) := by decide +kernel
theorem dX5_statement_98 : decode cX5_statement 98 = .ok (.iconst 3, 1) := by decide +kernel
theorem dX5_statement_99 : decode cX5_statement 99 = .ok (.aload_n 0, 1) := by decide +kernel
theorem dX5_statement_100 : decode cX5_statement 100 = .ok (.iconst 1, 1) := by decide +kernel
theorem dX5_statement_101 : decode cX5_statement 101 = .ok (.iconst 2, 1) := by decide +kernel
theorem dX5_statement_102 : decode cX5_statement 102 = .ok (.invokevirtual 135, 3) := by decide +kernel
theorem dX5_statement_105 : decode cX5_statement 105 = .ok (.iastore, 1) := by decide +kernel
theorem dX5_statement_106 : decode cX5_statement 106 = .ok (.goto 133, 3) := by decide +kernel
theorem dX5_statement_109 : decode cX5_statement 109 = .ok (.aload_n 0, 1) := by decide +kernel
theorem dX5_statement_110 : decode cX5_statement 110 = .ok (.getfield 47, 3) := by decide +kernel
theorem dX5_statement_113 : decode cX5_statement 113 = .ok (.iconst 0, 1) := by decide +kernel
theorem dX5_statement_114 : decode cX5_statement 114 = .ok (.aload_n 0, 1) := by decide +kernel
theorem dX5_statement_115 : decode cX5_statement 115 = .ok (.iconst 1, 1) := by decide +kernel
theorem dX5_statement_116 : decode cX5_statement 116 = .ok (.iconst 1, 1) := by decide +kernel
theorem dX5_statement_117 : decode cX5_statement 117 = .ok (.invokevirtual 135, 3) := by decide +kernel
theorem dX5_statement_120 : decode cX5_statement 120 = .ok (.iastore, 1) := by decide +kernel
theorem dX5_statement_121 : decode cX5_statement 121 = .ok (.aload_n 0, 1) := by decide +kernel
theorem dX5_statement_122 : decode cX5_statement 122 = .ok (.getfield 47, 3) := by decide +kernel
theorem dX5_statement_125 : decode cX5_statement 125 = .ok (.iconst 1, 1) := by decide +kernel
theorem dX5_statement_126 : decode cX5_statement 126 = .ok (.aload_n 0, 1) := by decide +kernel
theorem dX5_statement_127 : decode cX5_statement 127 = .ok (.iconst 2, 1) := by decide +kernel
theorem dX5_statement_128 : decode cX5_statement 128 = .ok (.iconst 2, 1) := by decide +kernel
theorem dX5_statement_129 : decode cX5_statement 129 = .ok (.invokevirtual 135, 3) := by decide +kernel
theorem dX5_statement_132 : decode cX5_statement 132 = .ok (.iastore, 1) := by decide +kernel
theorem dX5_statement_133 : decode cX5_statement 133 = .ok (.goto 106, 3) := by decide +kernel
theorem dX5_statement_136 : decode cX5_statement 136 = .ok (.iconst 0, 1) := by decide +kernel
theorem dX5_statement_137 : decode cX5_statement 137 = .ok (.istore_n 1, 1) := by decide +kernel
theorem dX5_statement_138 : decode cX5_statement 138 = .ok (.iload_n 1, 1) := by decide +kernel
theorem dX5_statement_139 : decode cX5_statement 139 = .ok (.bipush 7, 2) := by decide +kernel
theorem dX5_statement_141 : decode cX5_statement 141 = .ok (.if_icmp .ge 23, 3) := by decide +kernel
theorem dX5_statement_144 : decode cX5_statement 144 = .ok (.aload_n 0, 1) := by decide +kernel
theorem dX5_statement_145 : decode cX5_statement 145 = .ok (.getfield 47, 3) := by decide +kernel
theorem dX5_statement_148 : decode cX5_statement 148 = .ok (.iload_n 1, 1) := by decide +kernel
theorem dX5_statement_149 : decode cX5_statement 149 = .ok (.aload_n 0, 1) := by decide +kernel
theorem dX5_statement_150 : decode cX5_statement 150 = .ok (.aload_n 0, 1) := by decide +kernel
theorem dX5_statement_151 : decode cX5_statement 151 = .ok (.getfield 44, 3) := by decide +kernel
theorem dX5_statement_154 : decode cX5_statement 154 = .ok (.invokevirtual 128, 3) := by decide +kernel
theorem dX5_statement_157 : decode cX5_statement 157 = .ok (.iastore, 1) := by decide +kernel
theorem dX5_statement_158 : decode cX5_statement 158 = .ok (.iinc 1 1, 3) := by decide +kernel
theorem dX5_statement_161 : decode cX5_statement 161 = .ok (.goto (-23), 3) := by decide +kernel
theorem dX5_statement_164 : decode cX5_statement 164 = .ok (.goto 75, 3) := by decide +kernel
theorem dX5_statement_167 : decode cX5_statement 167 = .ok (.aload_n 0, 1) := by decide +kernel
theorem dX5_statement_168 : decode cX5_statement 168 = .ok (.getfield 47, 3) := by decide +kernel
theorem dX5_statement_171 : decode cX5_statement 171 = .ok (.iconst 0, 1) := by decide +kernel
theorem dX5_statement_172 : decode cX5_statement 172 = .ok (.aload_n 0, 1) := by decide +kernel
theorem dX5_statement_173 : decode cX5_statement 173 = .ok (.iconst 2, 1) := by decide +kernel
theorem dX5_statement_174 : decode cX5_statement 174 = .ok (.iconst 2, 1) := by decide +kernel
theorem dX5_statement_175 : decode cX5_statement 175 = .ok (.invokevirtual 135, 3) := by decide +kernel
theorem dX5_statement_178 : decode cX5_statement 178 = .ok (.iastore, 1) := by decide +kernel
theorem dX5_statement_179 : decode cX5_statement 179 = .ok (.aload_n 0, 1) := by decide +kernel
theorem dX5_statement_180 : decode cX5_statement 180 = .ok (.getfield 47, 3) := by decide +kernel
theorem dX5_statement_183 : decode cX5_statement 183 = .ok (.iconst 1, 1) := by decide +kernel
theorem dX5_statement_184 : decode cX5_statement 184 = .ok (.aload_n 0, 1) := by decide +kernel
theorem dX5_statement_185 : decode cX5_statement 185 = .ok (.iconst 1, 1) := by decide +kernel
theorem dX5_statement_186 : decode cX5_statement 186 = .ok (.iconst 1, 1) := by decide +kernel
theorem dX5_statement_187 : decode cX5_statement 187 = .ok (.invokevirtual 135, 3) := by decide +kernel
theorem dX5_statement_190 : decode cX5_statement 190 = .ok (.iastore, 1) := by decide +kernel
theorem dX5_statement_191 : decode cX5_statement 191 = .ok (.goto 48, 3) := by decide +kernel
theorem dX5_statement_194 : decode cX5_statement 194 = .ok (.aload_n 0, 1) := by decide +kernel
theorem dX5_statement_195 : decode cX5_statement 195 = .ok (.getfield 47, 3) := by decide +kernel
theorem dX5_statement_198 : decode cX5_statement 198 = .ok (.iconst 0, 1) := by decide +kernel
theorem dX5_statement_199 : decode cX5_statement 199 = .ok (.aload_n 0, 1) := by decide +kernel
theorem dX5_statement_200 : decode cX5_statement 200 = .ok (.aload_n 0, 1) := by decide +kernel
theorem dX5_statement_201 : decode cX5_statement 201 = .ok (.getfield 41, 3) := by decide +kernel
theorem dX5_statement_204 : decode cX5_statement 204 = .ok (.invokevirtual 128, 3) := by decide +kernel
theorem dX5_statement_207 : decode cX5_statement 207 = .ok (.iastore, 1) := by decide +kernel
theorem dX5_statement_208 : decode cX5_statement 208 = .ok (.goto 31, 3) := by decide +kernel
theorem dX5_statement_211 : decode cX5_statement 211 = .ok (.iconst 0, 1) := by decide +kernel
theorem dX5_statement_212 : decode cX5_statement 212 = .ok (.istore_n 1, 1) := by decide +kernel
theorem dX5_statement_213 : decode cX5_statement 213 = .ok (.iload_n 1, 1) := by decide +kernel
theorem dX5_statement_214 : decode cX5_statement 214 = .ok (.iconst 3, 1) := by decide +kernel
theorem dX5_statement_215 : decode cX5_statement 215 = .ok (.if_icmp .ge 21, 3) := by decide +kernel
theorem dX5_statement_218 : decode cX5_statement 218 = .ok (.aload_n 0, 1) := by decide +kernel
theorem dX5_statement_219 : decode cX5_statement 219 = .ok (.getfield 47, 3) := by decide +kernel
theorem dX5_statement_222 : decode cX5_statement 222 = .ok (.iload_n 1, 1) := by decide +kernel
theorem dX5_statement_223 : decode cX5_statement 223 = .ok (.aload_n 0, 1) := by decide +kernel
theorem dX5_statement_224 : decode cX5_statement 224 = .ok (.iconst 1, 1) := by decide +kernel
theorem dX5_statement_225 : decode cX5_statement 225 = .ok (.iconst 1, 1) := by decide +kernel
theorem dX5_statement_226 : decode cX5_statement 226 = .ok (.invokevirtual 135, 3) := by decide +kernel
theorem dX5_statement_229 : decode cX5_statement 229 = .ok (.iastore, 1) := by decide +kernel
theorem dX5_statement_230 : decode cX5_statement 230 = .ok (.iinc 1 1, 3) := by decide +kernel
theorem dX5_statement_233 : decode cX5_statement 233 = .ok (.goto (-20), 3) := by decide +kernel
theorem dX5_statement_236 : decode cX5_statement 236 = .ok (.goto 3, 3) := by decide +kernel
theorem dX5_statement_239 : decode cX5_statement 239 = .ok (.aload_n 0, 1) := by decide +kernel
theorem dX5_statement_240 : decode cX5_statement 240 = .ok (.getfield 122, 3) := by decide +kernel
theorem dX5_statement_243 : decode cX5_statement 243 = .ok (.ifCond .eq 41, 3) := by decide +kernel
theorem dX5_statement_246 : decode cX5_statement 246 = .ok (.aload_n 0, 1) := by decide +kernel
theorem dX5_statement_247 : decode cX5_statement 247 = .ok (.getfield 125, 3) := by decide +kernel
theorem dX5_statement_250 : decode cX5_statement 250 = .ok (.aload_n 0, 1) := by decide +kernel
theorem dX5_statement_251 : decode cX5_statement 251 = .ok (.getfield 119, 3) := by decide +kernel
theorem dX5_statement_254 : decode cX5_statement 254 = .ok (.if_icmp .ge 30, 3) := by decide +kernel
theorem dX5_statement_257 : decode cX5_statement 257 = .ok (.aload_n 0, 1) := by decide +kernel
theorem dX5_statement_258 : decode cX5_statement 258 = .ok (.getfield 31, 3) := by decide +kernel
theorem dX5_statement_261 : decode cX5_statement 261 = .ok (.aload_n 0, 1) := by decide +kernel
theorem dX5_statement_262 : decode cX5_statement 262 = .ok (.getfield 125, 3) := by decide +kernel
theorem dX5_statement_265 : decode cX5_statement 265 = .ok (.iaload, 1) := by decide +kernel
theorem dX5_statement_266 : decode cX5_statement 266 = .ok (.bipush 59, 2) := by decide +kernel
theorem dX5_statement_268 : decode cX5_statement 268 = .ok (.if_icmp .ne 16, 3) := by decide +kernel
theorem dX5_statement_271 : decode cX5_statement 271 = .ok (.aload_n 0, 1) := by decide +kernel
theorem dX5_statement_272 : decode cX5_statement 272 = .ok (.dup, 1) := by decide +kernel
theorem dX5_statement_273 : decode cX5_statement 273 = .ok (.getfield 125, 3) := by decide +kernel
theorem dX5_statement_276 : decode cX5_statement 276 = .ok (.iconst 1, 1) := by decide +kernel
theorem dX5_statement_277 : decode cX5_statement 277 = .ok (.iadd, 1) := by decide +kernel
theorem dX5_statement_278 : decode cX5_statement 278 = .ok (.putfield 125, 3) := by decide +kernel
theorem dX5_statement_281 : decode cX5_statement 281 = .ok (.goto 8, 3) := by decide +kernel
theorem dX5_statement_284 : decode cX5_statement 284 = .ok (.aload_n 0, 1) := by decide +kernel
theorem dX5_statement_285 : decode cX5_statement 285 = .ok (.iconst 0, 1) := by decide +kernel
theorem dX5_statement_286 : decode cX5_statement 286 = .ok (.putfield 122, 3) := by decide +kernel
theorem dX5_statement_289 : decode cX5_statement 289 = .ok (.return_, 1) := by decide +kernel
theorem dX5_isAsItMustBe_0 : decode cX5_isAsItMustBe 0 = .ok (.aload_n 0, 1) := by decide +kernel
theorem dX5_isAsItMustBe_1 : decode cX5_isAsItMustBe 1 = .ok (.getfield 132, 3) := by decide +kernel
theorem dX5_isAsItMustBe_4 : decode cX5_isAsItMustBe 4 = .ok (.tableswitch 143 0 6 #[44, 81, 143, 108, 143, 143, 125], 44) := by decide +kernel
theorem dX5_isAsItMustBe_48 : decode cX5_isAsItMustBe 48 = .ok (.aload_n 0, 1) := by decide +kernel
theorem dX5_isAsItMustBe_49 : decode cX5_isAsItMustBe 49 = .ok (.getfield 47, 3) := by decide +kernel
theorem dX5_isAsItMustBe_52 : decode cX5_isAsItMustBe 52 = .ok (.iconst 3, 1) := by decide +kernel
theorem dX5_isAsItMustBe_53 : decode cX5_isAsItMustBe 53 = .ok (.iaload, 1) := by decide +kernel
theorem dX5_isAsItMustBe_54 : decode cX5_isAsItMustBe 54 = .ok (.iconst 1, 1) := by decide +kernel
theorem dX5_isAsItMustBe_55 : decode cX5_isAsItMustBe 55 = .ok (.if_icmp .lt 28, 3) := by decide +kernel
theorem dX5_isAsItMustBe_58 : decode cX5_isAsItMustBe 58 = .ok (.aload_n 0, 1) := by decide +kernel
theorem dX5_isAsItMustBe_59 : decode cX5_isAsItMustBe 59 = .ok (.getfield 47, 3) := by decide +kernel
theorem dX5_isAsItMustBe_62 : decode cX5_isAsItMustBe 62 = .ok (.iconst 3, 1) := by decide +kernel
theorem dX5_isAsItMustBe_63 : decode cX5_isAsItMustBe 63 = .ok (.iaload, 1) := by decide +kernel
theorem dX5_isAsItMustBe_64 : decode cX5_isAsItMustBe 64 = .ok (.bipush 10, 2) := by decide +kernel
theorem dX5_isAsItMustBe_66 : decode cX5_isAsItMustBe 66 = .ok (.if_icmp .gt 17, 3) := by decide +kernel
theorem dX5_isAsItMustBe_69 : decode cX5_isAsItMustBe 69 = .ok (.aload_n 0, 1) := by decide +kernel
theorem dX5_isAsItMustBe_70 : decode cX5_isAsItMustBe 70 = .ok (.getfield 13, 3) := by decide +kernel
theorem dX5_isAsItMustBe_73 : decode cX5_isAsItMustBe 73 = .ok (.iconst 0, 1) := by decide +kernel
theorem dX5_isAsItMustBe_74 : decode cX5_isAsItMustBe 74 = .ok (.iaload, 1) := by decide +kernel
theorem dX5_isAsItMustBe_75 : decode cX5_isAsItMustBe 75 = .ok (.iconst 4, 1) := by decide +kernel
theorem dX5_isAsItMustBe_76 : decode cX5_isAsItMustBe 76 = .ok (.if_icmp .ge 7, 3) := by decide +kernel
theorem dX5_isAsItMustBe_79 : decode cX5_isAsItMustBe 79 = .ok (.iconst 1, 1) := by decide +kernel
theorem dX5_isAsItMustBe_80 : decode cX5_isAsItMustBe 80 = .ok (.goto 4, 3) := by decide +kernel
theorem dX5_isAsItMustBe_83 : decode cX5_isAsItMustBe 83 = .ok (.iconst 0, 1) := by decide +kernel
theorem dX5_isAsItMustBe_84 : decode cX5_isAsItMustBe 84 = .ok (.ireturn, 1) := by decide +kernel
theorem dX5_isAsItMustBe_85 : decode cX5_isAsItMustBe 85 = .ok (.aload_n 0, 1) := by decide +kernel
theorem dX5_isAsItMustBe_86 : decode cX5_isAsItMustBe 86 = .ok (.getfield 47, 3) := by decide +kernel
theorem dX5_isAsItMustBe_89 : decode cX5_isAsItMustBe 89 = .ok (.iconst 0, 1) := by decide +kernel
theorem dX5_isAsItMustBe_90 : decode cX5_isAsItMustBe 90 = .ok (.iaload, 1) := by decide +kernel
theorem dX5_isAsItMustBe_91 : decode cX5_isAsItMustBe 91 = .ok (.iconst 5, 1) := by decide +kernel
theorem dX5_isAsItMustBe_92 : decode cX5_isAsItMustBe 92 = .ok (.if_icmp .ge 18, 3) := by decide +kernel
theorem dX5_isAsItMustBe_95 : decode cX5_isAsItMustBe 95 = .ok (.aload_n 0, 1) := by decide +kernel
theorem dX5_isAsItMustBe_96 : decode cX5_isAsItMustBe 96 = .ok (.getfield 47, 3) := by decide +kernel
theorem dX5_isAsItMustBe_99 : decode cX5_isAsItMustBe 99 = .ok (.iconst 1, 1) := by decide +kernel
theorem dX5_isAsItMustBe_100 : decode cX5_isAsItMustBe 100 = .ok (.iaload, 1) := by decide +kernel
theorem dX5_isAsItMustBe_101 : decode cX5_isAsItMustBe 101 = .ok (.bipush 60, 2) := by decide +kernel
theorem dX5_isAsItMustBe_103 : decode cX5_isAsItMustBe 103 = .ok (.if_icmp .gt 7, 3) := by decide +kernel
theorem dX5_isAsItMustBe_106 : decode cX5_isAsItMustBe 106 = .ok (.iconst 1, 1) := by decide +kernel
theorem dX5_isAsItMustBe_107 : decode cX5_isAsItMustBe 107 = .ok (.goto 4, 3) := by decide +kernel
theorem dX5_isAsItMustBe_110 : decode cX5_isAsItMustBe 110 = .ok (.iconst 0, 1) := by decide +kernel
theorem dX5_isAsItMustBe_111 : decode cX5_isAsItMustBe 111 = .ok (.ireturn, 1) := by decide +kernel
theorem dX5_isAsItMustBe_112 : decode cX5_isAsItMustBe 112 = .ok (.aload_n 0, 1) := by decide +kernel
theorem dX5_isAsItMustBe_113 : decode cX5_isAsItMustBe 113 = .ok (.getfield 47, 3) := by decide +kernel
theorem dX5_isAsItMustBe_116 : decode cX5_isAsItMustBe 116 = .ok (.iconst 0, 1) := by decide +kernel
theorem dX5_isAsItMustBe_117 : decode cX5_isAsItMustBe 117 = .ok (.iaload, 1) := by decide +kernel
theorem dX5_isAsItMustBe_118 : decode cX5_isAsItMustBe 118 = .ok (.bipush 30, 2) := by decide +kernel
theorem dX5_isAsItMustBe_120 : decode cX5_isAsItMustBe 120 = .ok (.if_icmp .gt 7, 3) := by decide +kernel
theorem dX5_isAsItMustBe_123 : decode cX5_isAsItMustBe 123 = .ok (.iconst 1, 1) := by decide +kernel
theorem dX5_isAsItMustBe_124 : decode cX5_isAsItMustBe 124 = .ok (.goto 4, 3) := by decide +kernel
theorem dX5_isAsItMustBe_127 : decode cX5_isAsItMustBe 127 = .ok (.iconst 0, 1) := by decide +kernel
theorem dX5_isAsItMustBe_128 : decode cX5_isAsItMustBe 128 = .ok (.ireturn, 1) := by decide +kernel
theorem dX5_isAsItMustBe_129 : decode cX5_isAsItMustBe 129 = .ok (.aload_n 0, 1) := by decide +kernel
theorem dX5_isAsItMustBe_130 : decode cX5_isAsItMustBe 130 = .ok (.getfield 13, 3) := by decide +kernel
theorem dX5_isAsItMustBe_133 : decode cX5_isAsItMustBe 133 = .ok (.iconst 1, 1) := by decide +kernel
theorem dX5_isAsItMustBe_134 : decode cX5_isAsItMustBe 134 = .ok (.iaload, 1) := by decide +kernel
theorem dX5_isAsItMustBe_135 : decode cX5_isAsItMustBe 135 = .ok (.sipush 9999, 3) := by decide +kernel
theorem dX5_isAsItMustBe_138 : decode cX5_isAsItMustBe 138 = .ok (.if_icmp .ge 7, 3) := by decide +kernel
theorem dX5_isAsItMustBe_141 : decode cX5_isAsItMustBe 141 = .ok (.iconst 1, 1) := by decide +kernel
theorem dX5_isAsItMustBe_142 : decode cX5_isAsItMustBe 142 = .ok (.goto 4, 3) := by decide +kernel
theorem dX5_isAsItMustBe_145 : decode cX5_isAsItMustBe 145 = .ok (.iconst 0, 1) := by decide +kernel
theorem dX5_isAsItMustBe_146 : decode cX5_isAsItMustBe 146 = .ok (.ireturn, 1) := by decide +kernel
theorem dX5_isAsItMustBe_147 : decode cX5_isAsItMustBe 147 = .ok (.iconst 1, 1) := by decide +kernel
theorem dX5_isAsItMustBe_148 : decode cX5_isAsItMustBe 148 = .ok (.ireturn, 1) := by decide +kernel
theorem dX5_take_0 : decode cX5_take 0 = .ok (.aload_n 0, 1) := by decide +kernel
theorem dX5_take_1 : decode cX5_take 1 = .ok (.getfield 132, 3) := by decide +kernel
theorem dX5_take_4 : decode cX5_take 4 = .ok (.tableswitch 218 0 5 #[40, 90, 113, 145, 172, 188], 40) := by decide +kernel
theorem dX5_take_44 : decode cX5_take 44 = .ok (.iconst 0, 1) := by decide +kernel
theorem dX5_take_45 : decode cX5_take 45 = .ok (.istore_n 1, 1) := by decide +kernel
theorem dX5_take_46 : decode cX5_take 46 = .ok (.iload_n 1, 1) := by decide +kernel
theorem dX5_take_47 : decode cX5_take 47 = .ok (.iconst 4, 1) := by decide +kernel
theorem dX5_take_48 : decode cX5_take 48 = .ok (.if_icmp .ge 33, 3) := by decide +kernel
theorem dX5_take_51 : decode cX5_take 51 = .ok (.aload_n 0, 1) := by decide +kernel
theorem dX5_take_52 : decode cX5_take 52 = .ok (.getfield 13, 3) := by decide +kernel
theorem dX5_take_55 : decode cX5_take 55 = .ok (.bipush 30, 2) := by decide +kernel
theorem dX5_take_57 : decode cX5_take 57 = .ok (.iconst 4, 1) := by decide +kernel
theorem dX5_take_58 : decode cX5_take 58 = .ok (.aload_n 0, 1) := by decide +kernel
theorem dX5_take_59 : decode cX5_take 59 = .ok (.getfield 13, 3) := by decide +kernel
theorem dX5_take_62 : decode cX5_take 62 = .ok (.iconst 0, 1) := by decide +kernel
theorem dX5_take_63 : decode cX5_take 63 = .ok (.iaload, 1) := by decide +kernel
theorem dX5_take_64 : decode cX5_take 64 = .ok (.imul, 1) := by decide +kernel
theorem dX5_take_65 : decode cX5_take 65 = .ok (.iadd, 1) := by decide +kernel
theorem dX5_take_66 : decode cX5_take 66 = .ok (.iload_n 1, 1) := by decide +kernel
theorem dX5_take_67 : decode cX5_take 67 = .ok (.iadd, 1) := by decide +kernel
theorem dX5_take_68 : decode cX5_take 68 = .ok (.aload_n 0, 1) := by decide +kernel
theorem dX5_take_69 : decode cX5_take 69 = .ok (.getfield 47, 3) := by decide +kernel
theorem dX5_take_72 : decode cX5_take 72 = .ok (.iload_n 1, 1) := by decide +kernel
theorem dX5_take_73 : decode cX5_take 73 = .ok (.iaload, 1) := by decide +kernel
theorem dX5_take_74 : decode cX5_take 74 = .ok (.iastore, 1) := by decide +kernel
theorem dX5_take_75 : decode cX5_take 75 = .ok (.iinc 1 1, 3) := by decide +kernel
theorem dX5_take_78 : decode cX5_take 78 = .ok (.goto (-32), 3) := by decide +kernel
theorem dX5_take_81 : decode cX5_take 81 = .ok (.aload_n 0, 1) := by decide +kernel
theorem dX5_take_82 : decode cX5_take 82 = .ok (.getfield 13, 3) := by decide +kernel
theorem dX5_take_85 : decode cX5_take 85 = .ok (.iconst 0, 1) := by decide +kernel
theorem dX5_take_86 : decode cX5_take 86 = .ok (.dup2, 1) := by decide +kernel
theorem dX5_take_87 : decode cX5_take 87 = .ok (.iaload, 1) := by decide +kernel
theorem dX5_take_88 : decode cX5_take 88 = .ok (.iconst 1, 1) := by decide +kernel
theorem dX5_take_89 : decode cX5_take 89 = .ok (.iadd, 1) := by decide +kernel
theorem dX5_take_90 : decode cX5_take 90 = .ok (.iastore, 1) := by decide +kernel
theorem dX5_take_91 : decode cX5_take 91 = .ok (.goto 148, 3) := by decide +kernel
theorem dX5_take_94 : decode cX5_take 94 = .ok (.aload_n 0, 1) := by decide +kernel
theorem dX5_take_95 : decode cX5_take 95 = .ok (.getfield 13, 3) := by decide +kernel
theorem dX5_take_98 : decode cX5_take 98 = .ok (.bipush 10, 2) := by decide +kernel
theorem dX5_take_100 : decode cX5_take 100 = .ok (.aload_n 0, 1) := by decide +kernel
theorem dX5_take_101 : decode cX5_take 101 = .ok (.getfield 47, 3) := by decide +kernel
theorem dX5_take_104 : decode cX5_take 104 = .ok (.iconst 0, 1) := by decide +kernel
theorem dX5_take_105 : decode cX5_take 105 = .ok (.iaload, 1) := by decide +kernel
theorem dX5_take_106 : decode cX5_take 106 = .ok (.iadd, 1) := by decide +kernel
theorem dX5_take_107 : decode cX5_take 107 = .ok (.aload_n 0, 1) := by decide +kernel
theorem dX5_take_108 : decode cX5_take 108 = .ok (.getfield 47, 3) := by decide +kernel
theorem dX5_take_111 : decode cX5_take 111 = .ok (.iconst 1, 1) := by decide +kernel
theorem dX5_take_112 : decode cX5_take 112 = .ok (.iaload, 1) := by decide +kernel
theorem dX5_take_113 : decode cX5_take 113 = .ok (.iastore, 1) := by decide +kernel
theorem dX5_take_114 : decode cX5_take 114 = .ok (.goto 125, 3) := by decide +kernel
theorem dX5_take_117 : decode cX5_take 117 = .ok (.iconst 0, 1) := by decide +kernel
theorem dX5_take_118 : decode cX5_take 118 = .ok (.istore_n 1, 1) := by decide +kernel
theorem dX5_take_119 : decode cX5_take 119 = .ok (.iload_n 1, 1) := by decide +kernel
theorem dX5_take_120 : decode cX5_take 120 = .ok (.bipush 7, 2) := by decide +kernel
theorem dX5_take_122 : decode cX5_take 122 = .ok (.if_icmp .ge 24, 3) := by decide +kernel
theorem dX5_take_125 : decode cX5_take 125 = .ok (.aload_n 0, 1) := by decide +kernel
theorem dX5_take_126 : decode cX5_take 126 = .ok (.getfield 13, 3) := by decide +kernel
theorem dX5_take_129 : decode cX5_take 129 = .ok (.bipush 20, 2) := by decide +kernel
theorem dX5_take_131 : decode cX5_take 131 = .ok (.iload_n 1, 1) := by decide +kernel
theorem dX5_take_132 : decode cX5_take 132 = .ok (.iadd, 1) := by decide +kernel
theorem dX5_take_133 : decode cX5_take 133 = .ok (.aload_n 0, 1) := by decide +kernel
theorem dX5_take_134 : decode cX5_take 134 = .ok (.getfield 47, 3) := by decide +kernel
theorem dX5_take_137 : decode cX5_take 137 = .ok (.iload_n 1, 1) := by decide +kernel
theorem dX5_take_138 : decode cX5_take 138 = .ok (.iaload, 1) := by decide +kernel
theorem dX5_take_139 : decode cX5_take 139 = .ok (.iastore, 1) := by decide +kernel
theorem dX5_take_140 : decode cX5_take 140 = .ok (.iinc 1 1, 3) := by decide +kernel
theorem dX5_take_143 : decode cX5_take 143 = .ok (.goto (-24), 3) := by decide +kernel
theorem dX5_take_146 : decode cX5_take 146 = .ok (.goto 93, 3) := by decide +kernel
theorem dX5_take_149 : decode cX5_take 149 = .ok (.aload_n 0, 1) := by decide +kernel
theorem dX5_take_150 : decode cX5_take 150 = .ok (.getfield 13, 3) := by decide +kernel
theorem dX5_take_153 : decode cX5_take 153 = .ok (.iconst 2, 1) := by decide +kernel
theorem dX5_take_154 : decode cX5_take 154 = .ok (.aload_n 0, 1) := by decide +kernel
theorem dX5_take_155 : decode cX5_take 155 = .ok (.getfield 47, 3) := by decide +kernel
theorem dX5_take_158 : decode cX5_take 158 = .ok (.iconst 0, 1) := by decide +kernel
theorem dX5_take_159 : decode cX5_take 159 = .ok (.iaload, 1) := by decide +kernel
theorem dX5_take_160 : decode cX5_take 160 = .ok (.iastore, 1) := by decide +kernel
theorem dX5_take_161 : decode cX5_take 161 = .ok (.aload_n 0, 1) := by decide +kernel
theorem dX5_take_162 : decode cX5_take 162 = .ok (.getfield 13, 3) := by decide +kernel
theorem dX5_take_165 : decode cX5_take 165 = .ok (.iconst 3, 1) := by decide +kernel
theorem dX5_take_166 : decode cX5_take 166 = .ok (.aload_n 0, 1) := by decide +kernel
theorem dX5_take_167 : decode cX5_take 167 = .ok (.getfield 47, 3) := by decide +kernel
theorem dX5_take_170 : decode cX5_take 170 = .ok (.iconst 1, 1) := by decide +kernel
theorem dX5_take_171 : decode cX5_take 171 = .ok (.iaload, 1) := by decide +kernel
theorem dX5_take_172 : decode cX5_take 172 = .ok (.iastore, 1) := by decide +kernel
theorem dX5_take_173 : decode cX5_take 173 = .ok (.goto 66, 3) := by decide +kernel
theorem dX5_take_176 : decode cX5_take 176 = .ok (.aload_n 0, 1) := by decide +kernel
theorem dX5_take_177 : decode cX5_take 177 = .ok (.getfield 13, 3) := by decide +kernel
theorem dX5_take_180 : decode cX5_take 180 = .ok (.bipush 7, 2) := by decide +kernel
theorem dX5_take_182 : decode cX5_take 182 = .ok (.aload_n 0, 1) := by decide +kernel
theorem dX5_take_183 : decode cX5_take 183 = .ok (.getfield 47, 3) := by decide +kernel
theorem dX5_take_186 : decode cX5_take 186 = .ok (.iconst 0, 1) := by decide +kernel
theorem dX5_take_187 : decode cX5_take 187 = .ok (.iaload, 1) := by decide +kernel
theorem dX5_take_188 : decode cX5_take 188 = .ok (.iastore, 1) := by decide +kernel
theorem dX5_take_189 : decode cX5_take 189 = .ok (.goto 50, 3) := by decide +kernel
theorem dX5_take_192 : decode cX5_take 192 = .ok (.iconst 0, 1) := by decide +kernel
theorem dX5_take_193 : decode cX5_take 193 = .ok (.istore_n 1, 1) := by decide +kernel
theorem dX5_take_194 : decode cX5_take 194 = .ok (.iload_n 1, 1) := by decide +kernel
theorem dX5_take_195 : decode cX5_take 195 = .ok (.iconst 3, 1) := by decide +kernel
theorem dX5_take_196 : decode cX5_take 196 = .ok (.if_icmp .ge 23, 3) := by decide +kernel
theorem dX5_take_199 : decode cX5_take 199 = .ok (.aload_n 0, 1) := by decide +kernel
theorem dX5_take_200 : decode cX5_take 200 = .ok (.getfield 13, 3) := by decide +kernel
theorem dX5_take_203 : decode cX5_take 203 = .ok (.iconst 4, 1) := by decide +kernel
theorem dX5_take_204 : decode cX5_take 204 = .ok (.iload_n 1, 1) := by decide +kernel
theorem dX5_take_205 : decode cX5_take 205 = .ok (.iadd, 1) := by decide +kernel
theorem dX5_take_206 : decode cX5_take 206 = .ok (.aload_n 0, 1) := by decide +kernel
theorem dX5_take_207 : decode cX5_take 207 = .ok (.getfield 47, 3) := by decide +kernel
theorem dX5_take_210 : decode cX5_take 210 = .ok (.iload_n 1, 1) := by decide +kernel
theorem dX5_take_211 : decode cX5_take 211 = .ok (.iaload, 1) := by decide +kernel
theorem dX5_take_212 : decode cX5_take 212 = .ok (.iastore, 1) := by decide +kernel
theorem dX5_take_213 : decode cX5_take 213 = .ok (.iinc 1 1, 3) := by decide +kernel
theorem dX5_take_216 : decode cX5_take 216 = .ok (.goto (-22), 3) := by decide +kernel
theorem dX5_take_219 : decode cX5_take 219 = .ok (.goto 20, 3) := by decide +kernel
theorem dX5_take_222 : decode cX5_take 222 = .ok (.aload_n 0, 1) := by decide +kernel
theorem dX5_take_223 : decode cX5_take 223 = .ok (.aload_n 0, 1) := by decide +kernel
theorem dX5_take_224 : decode cX5_take 224 = .ok (.getfield 13, 3) := by decide +kernel
theorem dX5_take_227 : decode cX5_take 227 = .ok (.invokevirtual 107, 3) := by decide +kernel
theorem dX5_take_230 : decode cX5_take 230 = .ok (.aload_n 0, 1) := by decide +kernel
theorem dX5_take_231 : decode cX5_take 231 = .ok (.aload_n 0, 1) := by decide +kernel
theorem dX5_take_232 : decode cX5_take 232 = .ok (.getfield 13, 3) := by decide +kernel
theorem dX5_take_235 : decode cX5_take 235 = .ok (.iconst 0, 1) := by decide +kernel
theorem dX5_take_236 : decode cX5_take 236 = .ok (.invokevirtual 111, 3) := by decide +kernel
theorem dX5_take_239 : decode cX5_take 239 = .ok (.return_, 1) := by decide +kernel
theorem dX5_read_0 : decode cX5_read 0 = .ok (.iconst 0, 1) := by decide +kernel
theorem dX5_read_1 : decode cX5_read 1 = .ok (.istore_n 1, 1) := by decide +kernel
theorem dX5_read_2 : decode cX5_read 2 = .ok (.aload_n 0, 1) := by decide +kernel
theorem dX5_read_3 : decode cX5_read 3 = .ok (.iconst 0, 1) := by decide +kernel
theorem dX5_read_4 : decode cX5_read 4 = .ok (.putfield 125, 3) := by decide +kernel
theorem dX5_read_7 : decode cX5_read 7 = .ok (.aload_n 0, 1) := by decide +kernel
theorem dX5_read_8 : decode cX5_read 8 = .ok (.iconst 1, 1) := by decide +kernel
theorem dX5_read_9 : decode cX5_read 9 = .ok (.putfield 122, 3) := by decide +kernel
theorem dX5_read_12 : decode cX5_read 12 = .ok (.aload_n 0, 1) := by decide +kernel
theorem dX5_read_13 : decode cX5_read 13 = .ok (.invokevirtual 138, 3) := by decide +kernel
theorem dX5_read_16 : decode cX5_read 16 = .ok (.iinc 1 1, 3) := by decide +kernel
theorem dX5_read_19 : decode cX5_read 19 = .ok (.aload_n 0, 1) := by decide +kernel
theorem dX5_read_20 : decode cX5_read 20 = .ok (.getfield 122, 3) := by decide +kernel
theorem dX5_read_23 : decode cX5_read 23 = .ok (.ifCond .eq 14, 3) := by decide +kernel
theorem dX5_read_26 : decode cX5_read 26 = .ok (.aload_n 0, 1) := by decide +kernel
theorem dX5_read_27 : decode cX5_read 27 = .ok (.getfield 125, 3) := by decide +kernel
theorem dX5_read_30 : decode cX5_read 30 = .ok (.aload_n 0, 1) := by decide +kernel
theorem dX5_read_31 : decode cX5_read 31 = .ok (.getfield 119, 3) := by decide +kernel
theorem dX5_read_34 : decode cX5_read 34 = .ok (.if_icmp .lt (-22), 3) := by decide +kernel
theorem dX5_read_37 : decode cX5_read 37 = .ok (.aload_n 0, 1) := by decide +kernel
theorem dX5_read_38 : decode cX5_read 38 = .ok (.getfield 122, 3) := by decide +kernel
theorem dX5_read_41 : decode cX5_read 41 = .ok (.ifCond .ne 12, 3) := by decide +kernel
theorem dX5_read_44 : decode cX5_read 44 = .ok (.sipush (-1000), 3) := by decide +kernel
theorem dX5_read_47 : decode cX5_read 47 = .ok (.aload_n 0, 1) := by decide +kernel
theorem dX5_read_48 : decode cX5_read 48 = .ok (.getfield 125, 3) := by decide +kernel
theorem dX5_read_51 : decode cX5_read 51 = .ok (.isub, 1) := by decide +kernel
theorem dX5_read_52 : decode cX5_read 52 = .ok (.ireturn, 1) := by decide +kernel
theorem dX5_read_53 : decode cX5_read 53 = .ok (.aload_n 0, 1) := by decide +kernel
theorem dX5_read_54 : decode cX5_read 54 = .ok (.iconst 0, 1) := by decide +kernel
theorem dX5_read_55 : decode cX5_read 55 = .ok (.putfield 125, 3) := by decide +kernel
theorem dX5_read_58 : decode cX5_read 58 = .ok (.bipush 46, 2) := by decide +kernel
theorem dX5_read_60 : decode cX5_read 60 = .ok (.newarray .int, 2) := by decide +kernel
theorem dX5_read_62 : decode cX5_read 62 = .ok (.astore_n 2, 1) := by decide +kernel
theorem dX5_read_63 : decode cX5_read 63 = .ok (.aload_n 0, 1) := by decide +kernel
theorem dX5_read_64 : decode cX5_read 64 = .ok (.getfield 13, 3) := by decide +kernel
theorem dX5_read_67 : decode cX5_read 67 = .ok (.aload_n 2, 1) := by decide +kernel
theorem dX5_read_68 : decode cX5_read 68 = .ok (.invokestatic 60, 3) := by decide +kernel
theorem dX5_read_71 : decode cX5_read 71 = .ok (.aload_n 0, 1) := by decide +kernel
theorem dX5_read_72 : decode cX5_read 72 = .ok (.getfield 125, 3) := by decide +kernel
theorem dX5_read_75 : decode cX5_read 75 = .ok (.aload_n 0, 1) := by decide +kernel
theorem dX5_read_76 : decode cX5_read 76 = .ok (.getfield 119, 3) := by decide +kernel
theorem dX5_read_79 : decode cX5_read 79 = .ok (.if_icmp .ge 40, 3) := by decide +kernel
theorem dX5_read_82 : decode cX5_read 82 = .ok (.aload_n 0, 1) := by decide +kernel
theorem dX5_read_83 : decode cX5_read 83 = .ok (.getfield 125, 3) := by decide +kernel
theorem dX5_read_86 : decode cX5_read 86 = .ok (.istore_n 3, 1) := by decide +kernel
theorem dX5_read_87 : decode cX5_read 87 = .ok (.aload_n 0, 1) := by decide +kernel
theorem dX5_read_88 : decode cX5_read 88 = .ok (.invokevirtual 138, 3) := by decide +kernel
theorem dX5_read_91 : decode cX5_read 91 = .ok (.aload_n 0, 1) := by decide +kernel
theorem dX5_read_92 : decode cX5_read 92 = .ok (.invokevirtual 141, 3) := by decide +kernel
theorem dX5_read_95 : decode cX5_read 95 = .ok (.ifCond .ne 17, 3) := by decide +kernel
theorem dX5_read_98 : decode cX5_read 98 = .ok (.aload_n 2, 1) := by decide +kernel
theorem dX5_read_99 : decode cX5_read 99 = .ok (.aload_n 0, 1) := by decide +kernel
theorem dX5_read_100 : decode cX5_read 100 = .ok (.getfield 13, 3) := by decide +kernel
theorem dX5_read_103 : decode cX5_read 103 = .ok (.invokestatic 60, 3) := by decide +kernel
theorem dX5_read_106 : decode cX5_read 106 = .ok (.sipush (-2000), 3) := by decide +kernel
theorem dX5_read_109 : decode cX5_read 109 = .ok (.iload_n 3, 1) := by decide +kernel
theorem dX5_read_110 : decode cX5_read 110 = .ok (.isub, 1) := by decide +kernel
theorem dX5_read_111 : decode cX5_read 111 = .ok (.ireturn, 1) := by decide +kernel
theorem dX5_read_112 : decode cX5_read 112 = .ok (.aload_n 0, 1) := by decide +kernel
theorem dX5_read_113 : decode cX5_read 113 = .ok (.invokevirtual 145, 3) := by decide +kernel
theorem dX5_read_116 : decode cX5_read 116 = .ok (.goto (-45), 3) := by decide +kernel
theorem dX5_read_119 : decode cX5_read 119 = .ok (.iload_n 1, 1) := by decide +kernel
theorem dX5_read_120 : decode cX5_read 120 = .ok (.ireturn, 1) := by decide +kernel
theorem dX5_house_0 : decode cX5_house 0 = .ok (.aload_n 0, 1) := by decide +kernel
theorem dX5_house_1 : decode cX5_house 1 = .ok (.invokevirtual 148, 3) := by decide +kernel
theorem dX5_house_4 : decode cX5_house 4 = .ok (.istore_n 1, 1) := by decide +kernel
theorem dX5_house_5 : decode cX5_house 5 = .ok (.aload_n 0, 1) := by decide +kernel
theorem dX5_house_6 : decode cX5_house 6 = .ok (.iconst 0, 1) := by decide +kernel
theorem dX5_house_7 : decode cX5_house 7 = .ok (.putfield 119, 3) := by decide +kernel
theorem dX5_house_10 : decode cX5_house 10 = .ok (.iload_n 1, 1) := by decide +kernel
theorem dX5_house_11 : decode cX5_house 11 = .ok (.ireturn, 1) := by decide +kernel
theorem dX5_isNoEater_0 : decode cX5_isNoEater 0 = .ok (.iload_n 1, 1) := by decide +kernel
theorem dX5_isNoEater_1 : decode cX5_isNoEater 1 = .ok (.ifCond .lt 13, 3) := by decide +kernel
theorem dX5_isNoEater_4 : decode cX5_isNoEater 4 = .ok (.iload_n 1, 1) := by decide +kernel
theorem dX5_isNoEater_5 : decode cX5_isNoEater 5 = .ok (.aload_n 0, 1) := by decide +kernel
theorem dX5_isNoEater_6 : decode cX5_isNoEater 6 = .ok (.getfield 13, 3) := by decide +kernel
theorem dX5_isNoEater_9 : decode cX5_isNoEater 9 = .ok (.iconst 0, 1) := by decide +kernel
theorem dX5_isNoEater_10 : decode cX5_isNoEater 10 = .ok (.iaload, 1) := by decide +kernel
theorem dX5_isNoEater_11 : decode cX5_isNoEater 11 = .ok (.if_icmp .lt 7, 3) := by decide +kernel
theorem dX5_isNoEater_14 : decode cX5_isNoEater 14 = .ok (.iconst 1, 1) := by decide +kernel
theorem dX5_isNoEater_15 : decode cX5_isNoEater 15 = .ok (.goto 4, 3) := by decide +kernel
theorem dX5_isNoEater_18 : decode cX5_isNoEater 18 = .ok (.iconst 0, 1) := by decide +kernel
theorem dX5_isNoEater_19 : decode cX5_isNoEater 19 = .ok (.ireturn, 1) := by decide +kernel
theorem dX5_isNoAge_0 : decode cX5_isNoAge 0 = .ok (.iload_n 0, 1) := by decide +kernel
theorem dX5_isNoAge_1 : decode cX5_isNoAge 1 = .ok (.ifCond .lt 8, 3) := by decide +kernel
theorem dX5_isNoAge_4 : decode cX5_isNoAge 4 = .ok (.iload_n 0, 1) := by decide +kernel
theorem dX5_isNoAge_5 : decode cX5_isNoAge 5 = .ok (.iconst 4, 1) := by decide +kernel
theorem dX5_isNoAge_6 : decode cX5_isNoAge 6 = .ok (.if_icmp .le 7, 3) := by decide +kernel
theorem dX5_isNoAge_9 : decode cX5_isNoAge 9 = .ok (.iconst 1, 1) := by decide +kernel
theorem dX5_isNoAge_10 : decode cX5_isNoAge 10 = .ok (.goto 4, 3) := by decide +kernel
theorem dX5_isNoAge_13 : decode cX5_isNoAge 13 = .ok (.iconst 0, 1) := by decide +kernel
theorem dX5_isNoAge_14 : decode cX5_isNoAge 14 = .ok (.ireturn, 1) := by decide +kernel
theorem dX5_eater_0 : decode cX5_eater 0 = .ok (.aload_n 0, 1) := by decide +kernel
theorem dX5_eater_1 : decode cX5_eater 1 = .ok (.iload_n 1, 1) := by decide +kernel
theorem dX5_eater_2 : decode cX5_eater 2 = .ok (.invokevirtual 152, 3) := by decide +kernel
theorem dX5_eater_5 : decode cX5_eater 5 = .ok (.ifCond .eq 9, 3) := by decide +kernel
theorem dX5_eater_8 : decode cX5_eater 8 = .ok (.aload_n 0, 1) := by decide +kernel
theorem dX5_eater_9 : decode cX5_eater 9 = .ok (.iconst (-1), 1) := by decide +kernel
theorem dX5_eater_10 : decode cX5_eater 10 = .ok (.invokevirtual 64, 3) := by decide +kernel
theorem dX5_eater_13 : decode cX5_eater 13 = .ok (.ireturn, 1) := by decide +kernel
theorem dX5_eater_14 : decode cX5_eater 14 = .ok (.iload_n 2, 1) := by decide +kernel
theorem dX5_eater_15 : decode cX5_eater 15 = .ok (.ifCond .lt 8, 3) := by decide +kernel
theorem dX5_eater_18 : decode cX5_eater 18 = .ok (.iload_n 2, 1) := by decide +kernel
theorem dX5_eater_19 : decode cX5_eater 19 = .ok (.iconst 3, 1) := by decide +kernel
theorem dX5_eater_20 : decode cX5_eater 20 = .ok (.if_icmp .le 12, 3) := by decide +kernel
theorem dX5_eater_23 : decode cX5_eater 23 = .ok (.aload_n 0, 1) := by decide +kernel
theorem dX5_eater_24 : decode cX5_eater 24 = .ok (.bipush (-2), 2) := by decide +kernel
theorem dX5_eater_26 : decode cX5_eater 26 = .ok (.invokevirtual 64, 3) := by decide +kernel
theorem dX5_eater_29 : decode cX5_eater 29 = .ok (.goto 16, 3) := by decide +kernel
theorem dX5_eater_32 : decode cX5_eater 32 = .ok (.aload_n 0, 1) := by decide +kernel
theorem dX5_eater_33 : decode cX5_eater 33 = .ok (.getfield 13, 3) := by decide +kernel
theorem dX5_eater_36 : decode cX5_eater 36 = .ok (.bipush 30, 2) := by decide +kernel
theorem dX5_eater_38 : decode cX5_eater 38 = .ok (.iconst 4, 1) := by decide +kernel
theorem dX5_eater_39 : decode cX5_eater 39 = .ok (.iload_n 1, 1) := by decide +kernel
theorem dX5_eater_40 : decode cX5_eater 40 = .ok (.imul, 1) := by decide +kernel
theorem dX5_eater_41 : decode cX5_eater 41 = .ok (.iadd, 1) := by decide +kernel
theorem dX5_eater_42 : decode cX5_eater 42 = .ok (.iload_n 2, 1) := by decide +kernel
theorem dX5_eater_43 : decode cX5_eater 43 = .ok (.iadd, 1) := by decide +kernel
theorem dX5_eater_44 : decode cX5_eater 44 = .ok (.iaload, 1) := by decide +kernel
theorem dX5_eater_45 : decode cX5_eater 45 = .ok (.ireturn, 1) := by decide +kernel
theorem dX5_change_0 : decode cX5_change 0 = .ok (.iload_n 2, 1) := by decide +kernel
theorem dX5_change_1 : decode cX5_change 1 = .ok (.ifCond .ge 10, 3) := by decide +kernel
theorem dX5_change_4 : decode cX5_change 4 = .ok (.aload_n 0, 1) := by decide +kernel
theorem dX5_change_5 : decode cX5_change 5 = .ok (.bipush (-4), 2) := by decide +kernel
theorem dX5_change_7 : decode cX5_change 7 = .ok (.invokevirtual 64, 3) := by decide +kernel
theorem dX5_change_10 : decode cX5_change 10 = .ok (.ireturn, 1) := by decide +kernel
theorem dX5_change_11 : decode cX5_change 11 = .ok (.iload_n 2, 1) := by decide +kernel
theorem dX5_change_12 : decode cX5_change 12 = .ok (.iload_n 3, 1) := by decide +kernel
theorem dX5_change_13 : decode cX5_change 13 = .ok (.if_icmp .le 10, 3) := by decide +kernel
theorem dX5_change_16 : decode cX5_change 16 = .ok (.aload_n 0, 1) := by decide +kernel
theorem dX5_change_17 : decode cX5_change 17 = .ok (.bipush (-6), 2) := by decide +kernel
theorem dX5_change_19 : decode cX5_change 19 = .ok (.invokevirtual 64, 3) := by decide +kernel
theorem dX5_change_22 : decode cX5_change 22 = .ok (.ireturn, 1) := by decide +kernel
theorem dX5_change_23 : decode cX5_change 23 = .ok (.aload_n 0, 1) := by decide +kernel
theorem dX5_change_24 : decode cX5_change 24 = .ok (.getfield 13, 3) := by decide +kernel
theorem dX5_change_27 : decode cX5_change 27 = .ok (.iload_n 1, 1) := by decide +kernel
theorem dX5_change_28 : decode cX5_change 28 = .ok (.iaload, 1) := by decide +kernel
theorem dX5_change_29 : decode cX5_change 29 = .ok (.istore 4, 2) := by decide +kernel
theorem dX5_change_31 : decode cX5_change 31 = .ok (.aload_n 0, 1) := by decide +kernel
theorem dX5_change_32 : decode cX5_change 32 = .ok (.getfield 13, 3) := by decide +kernel
theorem dX5_change_35 : decode cX5_change 35 = .ok (.iload_n 1, 1) := by decide +kernel
theorem dX5_change_36 : decode cX5_change 36 = .ok (.iload_n 2, 1) := by decide +kernel
theorem dX5_change_37 : decode cX5_change 37 = .ok (.iastore, 1) := by decide +kernel
theorem dX5_change_38 : decode cX5_change 38 = .ok (.iload 4, 2) := by decide +kernel
theorem dX5_change_40 : decode cX5_change 40 = .ok (.ireturn, 1) := by decide +kernel
theorem dX5_stock_0 : decode cX5_stock 0 = .ok (.iload_n 1, 1) := by decide +kernel
theorem dX5_stock_1 : decode cX5_stock 1 = .ok (.invokestatic 156, 3) := by decide +kernel
theorem dX5_stock_4 : decode cX5_stock 4 = .ok (.ifCond .eq 11, 3) := by decide +kernel
theorem dX5_stock_7 : decode cX5_stock 7 = .ok (.aload_n 0, 1) := by decide +kernel
theorem dX5_stock_8 : decode cX5_stock 8 = .ok (.iconst (-1), 1) := by decide +kernel
theorem dX5_stock_9 : decode cX5_stock 9 = .ok (.invokevirtual 64, 3) := by decide +kernel
theorem dX5_stock_12 : decode cX5_stock 12 = .ok (.goto 14, 3) := by decide +kernel
theorem dX5_stock_15 : decode cX5_stock 15 = .ok (.aload_n 0, 1) := by decide +kernel
theorem dX5_stock_16 : decode cX5_stock 16 = .ok (.bipush 10, 2) := by decide +kernel
theorem dX5_stock_18 : decode cX5_stock 18 = .ok (.iload_n 1, 1) := by decide +kernel
theorem dX5_stock_19 : decode cX5_stock 19 = .ok (.iadd, 1) := by decide +kernel
theorem dX5_stock_20 : decode cX5_stock 20 = .ok (.iload_n 2, 1) := by decide +kernel
theorem dX5_stock_21 : decode cX5_stock 21 = .ok (.bipush 60, 2) := by decide +kernel
theorem dX5_stock_23 : decode cX5_stock 23 = .ok (.invokevirtual 159, 3) := by decide +kernel
theorem dX5_stock_26 : decode cX5_stock 26 = .ok (.ireturn, 1) := by decide +kernel
theorem dX5_open_0 : decode cX5_open 0 = .ok (.iload_n 1, 1) := by decide +kernel
theorem dX5_open_1 : decode cX5_open 1 = .ok (.ifCond .lt 9, 3) := by decide +kernel
theorem dX5_open_4 : decode cX5_open 4 = .ok (.iload_n 1, 1) := by decide +kernel
theorem dX5_open_5 : decode cX5_open 5 = .ok (.bipush 6, 2) := by decide +kernel
theorem dX5_open_7 : decode cX5_open 7 = .ok (.if_icmp .le 9, 3) := by decide +kernel
theorem dX5_open_10 : decode cX5_open 10 = .ok (.aload_n 0, 1) := by decide +kernel
theorem dX5_open_11 : decode cX5_open 11 = .ok (.iconst (-1), 1) := by decide +kernel
theorem dX5_open_12 : decode cX5_open 12 = .ok (.invokevirtual 64, 3) := by decide +kernel
theorem dX5_open_15 : decode cX5_open 15 = .ok (.ireturn, 1) := by decide +kernel
theorem dX5_open_16 : decode cX5_open 16 = .ok (.iload_n 2, 1) := by decide +kernel
theorem dX5_open_17 : decode cX5_open 17 = .ok (.ifCond .eq 17, 3) := by decide +kernel
theorem dX5_open_20 : decode cX5_open 20 = .ok (.iload_n 2, 1) := by decide +kernel
theorem dX5_open_21 : decode cX5_open 21 = .ok (.iconst 1, 1) := by decide +kernel
theorem dX5_open_22 : decode cX5_open 22 = .ok (.if_icmp .eq 12, 3) := by decide +kernel
theorem dX5_open_25 : decode cX5_open 25 = .ok (.aload_n 0, 1) := by decide +kernel
theorem dX5_open_26 : decode cX5_open 26 = .ok (.bipush (-2), 2) := by decide +kernel
theorem dX5_open_28 : decode cX5_open 28 = .ok (.invokevirtual 64, 3) := by decide +kernel
theorem dX5_open_31 : decode cX5_open 31 = .ok (.goto 13, 3) := by decide +kernel
theorem dX5_open_34 : decode cX5_open 34 = .ok (.aload_n 0, 1) := by decide +kernel
theorem dX5_open_35 : decode cX5_open 35 = .ok (.bipush 20, 2) := by decide +kernel
theorem dX5_open_37 : decode cX5_open 37 = .ok (.iload_n 1, 1) := by decide +kernel
theorem dX5_open_38 : decode cX5_open 38 = .ok (.iadd, 1) := by decide +kernel
theorem dX5_open_39 : decode cX5_open 39 = .ok (.iload_n 2, 1) := by decide +kernel
theorem dX5_open_40 : decode cX5_open 40 = .ok (.iconst 1, 1) := by decide +kernel
theorem dX5_open_41 : decode cX5_open 41 = .ok (.invokevirtual 159, 3) := by decide +kernel
theorem dX5_open_44 : decode cX5_open 44 = .ok (.ireturn, 1) := by decide +kernel
theorem dX5_set_0 : decode cX5_set 0 = .ok (.iload_n 1, 1) := by decide +kernel
theorem dX5_set_1 : decode cX5_set 1 = .ok (.ifCond .lt 8, 3) := by decide +kernel
theorem dX5_set_4 : decode cX5_set 4 = .ok (.iload_n 1, 1) := by decide +kernel
theorem dX5_set_5 : decode cX5_set 5 = .ok (.iconst 5, 1) := by decide +kernel
theorem dX5_set_6 : decode cX5_set 6 = .ok (.if_icmp .le 10, 3) := by decide +kernel
theorem dX5_set_9 : decode cX5_set 9 = .ok (.aload_n 0, 1) := by decide +kernel
theorem dX5_set_10 : decode cX5_set 10 = .ok (.bipush (-2), 2) := by decide +kernel
theorem dX5_set_12 : decode cX5_set 12 = .ok (.invokevirtual 64, 3) := by decide +kernel
theorem dX5_set_15 : decode cX5_set 15 = .ok (.ireturn, 1) := by decide +kernel
theorem dX5_set_16 : decode cX5_set 16 = .ok (.aload_n 0, 1) := by decide +kernel
theorem dX5_set_17 : decode cX5_set 17 = .ok (.iconst 2, 1) := by decide +kernel
theorem dX5_set_18 : decode cX5_set 18 = .ok (.iload_n 1, 1) := by decide +kernel
theorem dX5_set_19 : decode cX5_set 19 = .ok (.iadd, 1) := by decide +kernel
theorem dX5_set_20 : decode cX5_set 20 = .ok (.iload_n 2, 1) := by decide +kernel
theorem dX5_set_21 : decode cX5_set 21 = .ok (.iload_n 1, 1) := by decide +kernel
theorem dX5_set_22 : decode cX5_set 22 = .ok (.ifCond .ne 8, 3) := by decide +kernel
theorem dX5_set_25 : decode cX5_set 25 = .ok (.bipush 30, 2) := by decide +kernel
theorem dX5_set_27 : decode cX5_set 27 = .ok (.goto 14, 3) := by decide +kernel
theorem dX5_set_30 : decode cX5_set 30 = .ok (.iload_n 1, 1) := by decide +kernel
theorem dX5_set_31 : decode cX5_set 31 = .ok (.iconst 5, 1) := by decide +kernel
theorem dX5_set_32 : decode cX5_set 32 = .ok (.if_icmp .ne 7, 3) := by decide +kernel
theorem dX5_set_35 : decode cX5_set 35 = .ok (.iconst 5, 1) := by decide +kernel
theorem dX5_set_36 : decode cX5_set 36 = .ok (.goto 5, 3) := by decide +kernel
theorem dX5_set_39 : decode cX5_set 39 = .ok (.bipush 9, 2) := by decide +kernel
theorem dX5_set_41 : decode cX5_set 41 = .ok (.invokevirtual 159, 3) := by decide +kernel
theorem dX5_set_44 : decode cX5_set 44 = .ok (.ireturn, 1) := by decide +kernel
theorem dX5_worth_0 : decode cX5_worth 0 = .ok (.aload_n 0, 1) := by decide +kernel
theorem dX5_worth_1 : decode cX5_worth 1 = .ok (.iload_n 1, 1) := by decide +kernel
theorem dX5_worth_2 : decode cX5_worth 2 = .ok (.invokevirtual 152, 3) := by decide +kernel
theorem dX5_worth_5 : decode cX5_worth 5 = .ok (.ifCond .ne 10, 3) := by decide +kernel
theorem dX5_worth_8 : decode cX5_worth 8 = .ok (.iload_n 2, 1) := by decide +kernel
theorem dX5_worth_9 : decode cX5_worth 9 = .ok (.invokestatic 156, 3) := by decide +kernel
theorem dX5_worth_12 : decode cX5_worth 12 = .ok (.ifCond .eq 9, 3) := by decide +kernel
theorem dX5_worth_15 : decode cX5_worth 15 = .ok (.aload_n 0, 1) := by decide +kernel
theorem dX5_worth_16 : decode cX5_worth 16 = .ok (.iconst (-1), 1) := by decide +kernel
theorem dX5_worth_17 : decode cX5_worth 17 = .ok (.invokevirtual 64, 3) := by decide +kernel
theorem dX5_worth_20 : decode cX5_worth 20 = .ok (.ireturn, 1) := by decide +kernel
theorem dX5_worth_21 : decode cX5_worth 21 = .ok (.aload_n 0, 1) := by decide +kernel
theorem dX5_worth_22 : decode cX5_worth 22 = .ok (.getfield 13, 3) := by decide +kernel
theorem dX5_worth_25 : decode cX5_worth 25 = .ok (.iload_n 1, 1) := by decide +kernel
theorem dX5_worth_26 : decode cX5_worth 26 = .ok (.iload_n 2, 1) := by decide +kernel
theorem dX5_worth_27 : decode cX5_worth 27 = .ok (.invokestatic 74, 3) := by decide +kernel
theorem dX5_worth_30 : decode cX5_worth 30 = .ok (.istore_n 3, 1) := by decide +kernel
theorem dX5_worth_31 : decode cX5_worth 31 = .ok (.iload_n 3, 1) := by decide +kernel
theorem dX5_worth_32 : decode cX5_worth 32 = .ok (.ifCond .ge 8, 3) := by decide +kernel
theorem dX5_worth_35 : decode cX5_worth 35 = .ok (.bipush (-9), 2) := by decide +kernel
theorem dX5_worth_37 : decode cX5_worth 37 = .ok (.goto 4, 3) := by decide +kernel
theorem dX5_worth_40 : decode cX5_worth 40 = .ok (.iload_n 3, 1) := by decide +kernel
theorem dX5_worth_41 : decode cX5_worth 41 = .ok (.ireturn, 1) := by decide +kernel
theorem dX5_dayOn_0 : decode cX5_dayOn 0 = .ok (.aload_n 0, 1) := by decide +kernel
theorem dX5_dayOn_1 : decode cX5_dayOn 1 = .ok (.getfield 13, 3) := by decide +kernel
theorem dX5_dayOn_4 : decode cX5_dayOn 4 = .ok (.iconst 1, 1) := by decide +kernel
theorem dX5_dayOn_5 : decode cX5_dayOn 5 = .ok (.iaload, 1) := by decide +kernel
theorem dX5_dayOn_6 : decode cX5_dayOn 6 = .ok (.sipush 9999, 3) := by decide +kernel
theorem dX5_dayOn_9 : decode cX5_dayOn 9 = .ok (.if_icmp .ne 13, 3) := by decide +kernel
theorem dX5_dayOn_12 : decode cX5_dayOn 12 = .ok (.ldc 163, 2) := by decide +kernel
theorem dX5_dayOn_14 : decode cX5_dayOn 14 = .ok (.aload_n 0, 1) := by decide +kernel
theorem dX5_dayOn_15 : decode cX5_dayOn 15 = .ok (.bipush (-6), 2) := by decide +kernel
theorem dX5_dayOn_17 : decode cX5_dayOn 17 = .ok (.invokevirtual 64, 3) := by decide +kernel
theorem dX5_dayOn_20 : decode cX5_dayOn 20 = .ok (.isub, 1) := by decide +kernel
theorem dX5_dayOn_21 : decode cX5_dayOn 21 = .ok (.ireturn, 1) := by decide +kernel
theorem dX5_dayOn_22 : decode cX5_dayOn 22 = .ok (.aload_n 0, 1) := by decide +kernel
theorem dX5_dayOn_23 : decode cX5_dayOn 23 = .ok (.aload_n 0, 1) := by decide +kernel
theorem dX5_dayOn_24 : decode cX5_dayOn 24 = .ok (.getfield 13, 3) := by decide +kernel
theorem dX5_dayOn_27 : decode cX5_dayOn 27 = .ok (.invokevirtual 107, 3) := by decide +kernel
theorem dX5_dayOn_30 : decode cX5_dayOn 30 = .ok (.aload_n 0, 1) := by decide +kernel
theorem dX5_dayOn_31 : decode cX5_dayOn 31 = .ok (.aload_n 0, 1) := by decide +kernel
theorem dX5_dayOn_32 : decode cX5_dayOn 32 = .ok (.getfield 13, 3) := by decide +kernel
theorem dX5_dayOn_35 : decode cX5_dayOn 35 = .ok (.iconst 0, 1) := by decide +kernel
theorem dX5_dayOn_36 : decode cX5_dayOn 36 = .ok (.invokevirtual 111, 3) := by decide +kernel
theorem dX5_dayOn_39 : decode cX5_dayOn 39 = .ok (.aload_n 0, 1) := by decide +kernel
theorem dX5_dayOn_40 : decode cX5_dayOn 40 = .ok (.getfield 85, 3) := by decide +kernel
theorem dX5_dayOn_43 : decode cX5_dayOn 43 = .ok (.ireturn, 1) := by decide +kernel
theorem dX5_isWrong_0 : decode cX5_isWrong 0 = .ok (.iload_n 1, 1) := by decide +kernel
theorem dX5_isWrong_1 : decode cX5_isWrong 1 = .ok (.ifCond .ge 8, 3) := by decide +kernel
theorem dX5_isWrong_4 : decode cX5_isWrong 4 = .ok (.bipush (-4), 2) := by decide +kernel
theorem dX5_isWrong_6 : decode cX5_isWrong 6 = .ok (.goto 15, 3) := by decide +kernel
theorem dX5_isWrong_9 : decode cX5_isWrong 9 = .ok (.iload_n 1, 1) := by decide +kernel
theorem dX5_isWrong_10 : decode cX5_isWrong 10 = .ok (.bipush 28, 2) := by decide +kernel
theorem dX5_isWrong_12 : decode cX5_isWrong 12 = .ok (.if_icmp .le 8, 3) := by decide +kernel
theorem dX5_isWrong_15 : decode cX5_isWrong 15 = .ok (.bipush (-6), 2) := by decide +kernel
theorem dX5_isWrong_17 : decode cX5_isWrong 17 = .ok (.goto 4, 3) := by decide +kernel
theorem dX5_isWrong_20 : decode cX5_isWrong 20 = .ok (.iconst 0, 1) := by decide +kernel
theorem dX5_isWrong_21 : decode cX5_isWrong 21 = .ok (.ireturn, 1) := by decide +kernel
theorem dX5_total_0 : decode cX5_total 0 = .ok (.aload_n 0, 1) := by decide +kernel
theorem dX5_total_1 : decode cX5_total 1 = .ok (.iload_n 1, 1) := by decide +kernel
theorem dX5_total_2 : decode cX5_total 2 = .ok (.invokevirtual 164, 3) := by decide +kernel
theorem dX5_total_5 : decode cX5_total 5 = .ok (.ifCond .ge 16, 3) := by decide +kernel
theorem dX5_total_8 : decode cX5_total 8 = .ok (.ldc 163, 2) := by decide +kernel
theorem dX5_total_10 : decode cX5_total 10 = .ok (.aload_n 0, 1) := by decide +kernel
theorem dX5_total_11 : decode cX5_total 11 = .ok (.aload_n 0, 1) := by decide +kernel
theorem dX5_total_12 : decode cX5_total 12 = .ok (.iload_n 1, 1) := by decide +kernel
theorem dX5_total_13 : decode cX5_total 13 = .ok (.invokevirtual 164, 3) := by decide +kernel
theorem dX5_total_16 : decode cX5_total 16 = .ok (.invokevirtual 64, 3) := by decide +kernel
theorem dX5_total_19 : decode cX5_total 19 = .ok (.isub, 1) := by decide +kernel
theorem dX5_total_20 : decode cX5_total 20 = .ok (.ireturn, 1) := by decide +kernel
theorem dX5_total_21 : decode cX5_total 21 = .ok (.iload_n 2, 1) := by decide +kernel
theorem dX5_total_22 : decode cX5_total 22 = .ok (.ifCond .lt 8, 3) := by decide +kernel
theorem dX5_total_25 : decode cX5_total 25 = .ok (.iload_n 2, 1) := by decide +kernel
theorem dX5_total_26 : decode cX5_total 26 = .ok (.iconst 5, 1) := by decide +kernel
theorem dX5_total_27 : decode cX5_total 27 = .ok (.if_icmp .le 13, 3) := by decide +kernel
theorem dX5_total_30 : decode cX5_total 30 = .ok (.ldc 163, 2) := by decide +kernel
theorem dX5_total_32 : decode cX5_total 32 = .ok (.aload_n 0, 1) := by decide +kernel
theorem dX5_total_33 : decode cX5_total 33 = .ok (.bipush (-2), 2) := by decide +kernel
theorem dX5_total_35 : decode cX5_total 35 = .ok (.invokevirtual 64, 3) := by decide +kernel
theorem dX5_total_38 : decode cX5_total 38 = .ok (.isub, 1) := by decide +kernel
theorem dX5_total_39 : decode cX5_total 39 = .ok (.ireturn, 1) := by decide +kernel
theorem dX5_total_40 : decode cX5_total 40 = .ok (.aload_n 0, 1) := by decide +kernel
theorem dX5_total_41 : decode cX5_total 41 = .ok (.getfield 13, 3) := by decide +kernel
theorem dX5_total_44 : decode cX5_total 44 = .ok (.aload_n 0, 1) := by decide +kernel
theorem dX5_total_45 : decode cX5_total 45 = .ok (.getfield 16, 3) := by decide +kernel
theorem dX5_total_48 : decode cX5_total 48 = .ok (.invokestatic 60, 3) := by decide +kernel
theorem dX5_total_51 : decode cX5_total 51 = .ok (.aload_n 0, 1) := by decide +kernel
theorem dX5_total_52 : decode cX5_total 52 = .ok (.iload_n 1, 1) := by decide +kernel
theorem dX5_total_53 : decode cX5_total 53 = .ok (.iconst 0, 1) := by decide +kernel
theorem dX5_total_54 : decode cX5_total 54 = .ok (.invokevirtual 115, 3) := by decide +kernel
theorem dX5_total_57 : decode cX5_total 57 = .ok (.aload_n 0, 1) := by decide +kernel
theorem dX5_total_58 : decode cX5_total 58 = .ok (.getfield 28, 3) := by decide +kernel
theorem dX5_total_61 : decode cX5_total 61 = .ok (.iload_n 2, 1) := by decide +kernel
theorem dX5_total_62 : decode cX5_total 62 = .ok (.iaload, 1) := by decide +kernel
theorem dX5_total_63 : decode cX5_total 63 = .ok (.ireturn, 1) := by decide +kernel
theorem dX5_left_0 : decode cX5_left 0 = .ok (.aload_n 0, 1) := by decide +kernel
theorem dX5_left_1 : decode cX5_left 1 = .ok (.iload_n 1, 1) := by decide +kernel
theorem dX5_left_2 : decode cX5_left 2 = .ok (.invokevirtual 164, 3) := by decide +kernel
theorem dX5_left_5 : decode cX5_left 5 = .ok (.ifCond .ge 13, 3) := by decide +kernel
theorem dX5_left_8 : decode cX5_left 8 = .ok (.aload_n 0, 1) := by decide +kernel
theorem dX5_left_9 : decode cX5_left 9 = .ok (.aload_n 0, 1) := by decide +kernel
theorem dX5_left_10 : decode cX5_left 10 = .ok (.iload_n 1, 1) := by decide +kernel
theorem dX5_left_11 : decode cX5_left 11 = .ok (.invokevirtual 164, 3) := by decide +kernel
theorem dX5_left_14 : decode cX5_left 14 = .ok (.invokevirtual 64, 3) := by decide +kernel
theorem dX5_left_17 : decode cX5_left 17 = .ok (.ireturn, 1) := by decide +kernel
theorem dX5_left_18 : decode cX5_left 18 = .ok (.iload_n 2, 1) := by decide +kernel
theorem dX5_left_19 : decode cX5_left 19 = .ok (.invokestatic 156, 3) := by decide +kernel
theorem dX5_left_22 : decode cX5_left 22 = .ok (.ifCond .eq 9, 3) := by decide +kernel
theorem dX5_left_25 : decode cX5_left 25 = .ok (.aload_n 0, 1) := by decide +kernel
theorem dX5_left_26 : decode cX5_left 26 = .ok (.iconst (-1), 1) := by decide +kernel
theorem dX5_left_27 : decode cX5_left 27 = .ok (.invokevirtual 64, 3) := by decide +kernel
theorem dX5_left_30 : decode cX5_left 30 = .ok (.ireturn, 1) := by decide +kernel
theorem dX5_left_31 : decode cX5_left 31 = .ok (.aload_n 0, 1) := by decide +kernel
theorem dX5_left_32 : decode cX5_left 32 = .ok (.getfield 13, 3) := by decide +kernel
theorem dX5_left_35 : decode cX5_left 35 = .ok (.aload_n 0, 1) := by decide +kernel
theorem dX5_left_36 : decode cX5_left 36 = .ok (.getfield 16, 3) := by decide +kernel
theorem dX5_left_39 : decode cX5_left 39 = .ok (.invokestatic 60, 3) := by decide +kernel
theorem dX5_left_42 : decode cX5_left 42 = .ok (.aload_n 0, 1) := by decide +kernel
theorem dX5_left_43 : decode cX5_left 43 = .ok (.iload_n 1, 1) := by decide +kernel
theorem dX5_left_44 : decode cX5_left 44 = .ok (.iconst 0, 1) := by decide +kernel
theorem dX5_left_45 : decode cX5_left 45 = .ok (.invokevirtual 115, 3) := by decide +kernel
theorem dX5_left_48 : decode cX5_left 48 = .ok (.aload_n 0, 1) := by decide +kernel
theorem dX5_left_49 : decode cX5_left 49 = .ok (.getfield 16, 3) := by decide +kernel
theorem dX5_left_52 : decode cX5_left 52 = .ok (.bipush 10, 2) := by decide +kernel
theorem dX5_left_54 : decode cX5_left 54 = .ok (.iload_n 2, 1) := by decide +kernel
theorem dX5_left_55 : decode cX5_left 55 = .ok (.iadd, 1) := by decide +kernel
theorem dX5_left_56 : decode cX5_left 56 = .ok (.iaload, 1) := by decide +kernel
theorem dX5_left_57 : decode cX5_left 57 = .ok (.ireturn, 1) := by decide +kernel
theorem dX5_never_0 : decode cX5_never 0 = .ok (.aload_n 0, 1) := by decide +kernel
theorem dX5_never_1 : decode cX5_never 1 = .ok (.getfield 13, 3) := by decide +kernel
theorem dX5_never_4 : decode cX5_never 4 = .ok (.aload_n 0, 1) := by decide +kernel
theorem dX5_never_5 : decode cX5_never 5 = .ok (.getfield 16, 3) := by decide +kernel
theorem dX5_never_8 : decode cX5_never 8 = .ok (.invokestatic 60, 3) := by decide +kernel
theorem dX5_never_11 : decode cX5_never 11 = .ok (.aload_n 0, 1) := by decide +kernel
theorem dX5_never_12 : decode cX5_never 12 = .ok (.aload_n 0, 1) := by decide +kernel
theorem dX5_never_13 : decode cX5_never 13 = .ok (.getfield 16, 3) := by decide +kernel
theorem dX5_never_16 : decode cX5_never 16 = .ok (.invokevirtual 107, 3) := by decide +kernel
theorem dX5_never_19 : decode cX5_never 19 = .ok (.iconst 0, 1) := by decide +kernel
theorem dX5_never_20 : decode cX5_never 20 = .ok (.istore_n 1, 1) := by decide +kernel
theorem dX5_never_21 : decode cX5_never 21 = .ok (.iload_n 1, 1) := by decide +kernel
theorem dX5_never_22 : decode cX5_never 22 = .ok (.bipush 28, 2) := by decide +kernel
theorem dX5_never_24 : decode cX5_never 24 = .ok (.if_icmp .ge 27, 3) := by decide +kernel
theorem dX5_never_27 : decode cX5_never 27 = .ok (.aload_n 0, 1) := by decide +kernel
theorem dX5_never_28 : decode cX5_never 28 = .ok (.aload_n 0, 1) := by decide +kernel
theorem dX5_never_29 : decode cX5_never 29 = .ok (.getfield 16, 3) := by decide +kernel
theorem dX5_never_32 : decode cX5_never 32 = .ok (.iconst 0, 1) := by decide +kernel
theorem dX5_never_33 : decode cX5_never 33 = .ok (.invokevirtual 111, 3) := by decide +kernel
theorem dX5_never_36 : decode cX5_never 36 = .ok (.aload_n 0, 1) := by decide +kernel
theorem dX5_never_37 : decode cX5_never 37 = .ok (.getfield 88, 3) := by decide +kernel
theorem dX5_never_40 : decode cX5_never 40 = .ok (.ifCond .le 5, 3) := by decide +kernel
theorem dX5_never_43 : decode cX5_never 43 = .ok (.iload_n 1, 1) := by decide +kernel
theorem dX5_never_44 : decode cX5_never 44 = .ok (.ireturn, 1) := by decide +kernel
theorem dX5_never_45 : decode cX5_never 45 = .ok (.iinc 1 1, 3) := by decide +kernel
theorem dX5_never_48 : decode cX5_never 48 = .ok (.goto (-27), 3) := by decide +kernel
theorem dX5_never_51 : decode cX5_never 51 = .ok (.bipush 28, 2) := by decide +kernel
theorem dX5_never_53 : decode cX5_never 53 = .ok (.ireturn, 1) := by decide +kernel
theorem dX5_slices_0 : decode cX5_slices 0 = .ok (.iconst 0, 1) := by decide +kernel
theorem dX5_slices_1 : decode cX5_slices 1 = .ok (.istore_n 1, 1) := by decide +kernel
theorem dX5_slices_2 : decode cX5_slices 2 = .ok (.iconst 0, 1) := by decide +kernel
theorem dX5_slices_3 : decode cX5_slices 3 = .ok (.istore_n 2, 1) := by decide +kernel
theorem dX5_slices_4 : decode cX5_slices 4 = .ok (.iload_n 2, 1) := by decide +kernel
theorem dX5_slices_5 : decode cX5_slices 5 = .ok (.iconst 5, 1) := by decide +kernel
theorem dX5_slices_6 : decode cX5_slices 6 = .ok (.if_icmp .ge 18, 3) := by decide +kernel
theorem dX5_slices_9 : decode cX5_slices 9 = .ok (.iload_n 1, 1) := by decide +kernel
theorem dX5_slices_10 : decode cX5_slices 10 = .ok (.aload_n 0, 1) := by decide +kernel
theorem dX5_slices_11 : decode cX5_slices 11 = .ok (.bipush 10, 2) := by decide +kernel
theorem dX5_slices_13 : decode cX5_slices 13 = .ok (.iload_n 2, 1) := by decide +kernel
theorem dX5_slices_14 : decode cX5_slices 14 = .ok (.iadd, 1) := by decide +kernel
theorem dX5_slices_15 : decode cX5_slices 15 = .ok (.iaload, 1) := by decide +kernel
theorem dX5_slices_16 : decode cX5_slices 16 = .ok (.iadd, 1) := by decide +kernel
theorem dX5_slices_17 : decode cX5_slices 17 = .ok (.istore_n 1, 1) := by decide +kernel
theorem dX5_slices_18 : decode cX5_slices 18 = .ok (.iinc 2 1, 3) := by decide +kernel
theorem dX5_slices_21 : decode cX5_slices 21 = .ok (.goto (-17), 3) := by decide +kernel
theorem dX5_slices_24 : decode cX5_slices 24 = .ok (.iload_n 1, 1) := by decide +kernel
theorem dX5_slices_25 : decode cX5_slices 25 = .ok (.ireturn, 1) := by decide +kernel
theorem dX5_out_0 : decode cX5_out 0 = .ok (.aload_n 0, 1) := by decide +kernel
theorem dX5_out_1 : decode cX5_out 1 = .ok (.iload_n 1, 1) := by decide +kernel
theorem dX5_out_2 : decode cX5_out 2 = .ok (.invokevirtual 164, 3) := by decide +kernel
theorem dX5_out_5 : decode cX5_out 5 = .ok (.ifCond .ge 13, 3) := by decide +kernel
theorem dX5_out_8 : decode cX5_out 8 = .ok (.aload_n 0, 1) := by decide +kernel
theorem dX5_out_9 : decode cX5_out 9 = .ok (.aload_n 0, 1) := by decide +kernel
theorem dX5_out_10 : decode cX5_out 10 = .ok (.iload_n 1, 1) := by decide +kernel
theorem dX5_out_11 : decode cX5_out 11 = .ok (.invokevirtual 164, 3) := by decide +kernel
theorem dX5_out_14 : decode cX5_out 14 = .ok (.invokevirtual 64, 3) := by decide +kernel
theorem dX5_out_17 : decode cX5_out 17 = .ok (.ireturn, 1) := by decide +kernel
theorem dX5_out_18 : decode cX5_out 18 = .ok (.iconst 0, 1) := by decide +kernel
theorem dX5_out_19 : decode cX5_out 19 = .ok (.istore_n 2, 1) := by decide +kernel
theorem dX5_out_20 : decode cX5_out 20 = .ok (.iconst 0, 1) := by decide +kernel
theorem dX5_out_21 : decode cX5_out 21 = .ok (.istore_n 3, 1) := by decide +kernel
theorem dX5_out_22 : decode cX5_out 22 = .ok (.iconst 0, 1) := by decide +kernel
theorem dX5_out_23 : decode cX5_out 23 = .ok (.istore 4, 2) := by decide +kernel
theorem dX5_out_25 : decode cX5_out 25 = .ok (.iload 4, 2) := by decide +kernel
theorem dX5_out_27 : decode cX5_out 27 = .ok (.bipush 20, 2) := by decide +kernel
theorem dX5_out_29 : decode cX5_out 29 = .ok (.aload_n 0, 1) := by decide +kernel
theorem dX5_out_30 : decode cX5_out 30 = .ok (.getfield 13, 3) := by decide +kernel
theorem dX5_out_33 : decode cX5_out 33 = .ok (.invokestatic 167, 3) := by decide +kernel
theorem dX5_out_36 : decode cX5_out 36 = .ok (.invokestatic 78, 3) := by decide +kernel
theorem dX5_out_39 : decode cX5_out 39 = .ok (.if_icmp .gt 106, 3) := by decide +kernel
theorem dX5_out_42 : decode cX5_out 42 = .ok (.aload_n 0, 1) := by decide +kernel
theorem dX5_out_43 : decode cX5_out 43 = .ok (.getfield 13, 3) := by decide +kernel
theorem dX5_out_46 : decode cX5_out 46 = .ok (.aload_n 0, 1) := by decide +kernel
theorem dX5_out_47 : decode cX5_out 47 = .ok (.getfield 16, 3) := by decide +kernel
theorem dX5_out_50 : decode cX5_out 50 = .ok (.invokestatic 60, 3) := by decide +kernel
theorem dX5_out_53 : decode cX5_out 53 = .ok (.iconst 0, 1) := by decide +kernel
theorem dX5_out_54 : decode cX5_out 54 = .ok (.istore 5, 2) := by decide +kernel
theorem dX5_out_56 : decode cX5_out 56 = .ok (.iload 5, 2) := by decide +kernel
theorem dX5_out_58 : decode cX5_out 58 = .ok (.iload 4, 2) := by decide +kernel
theorem dX5_out_60 : decode cX5_out 60 = .ok (.if_icmp .ge 45, 3) := by decide +kernel
theorem dX5_out_63 : decode cX5_out 63 = .ok (.iconst 4, 1) := by decide +kernel
theorem dX5_out_64 : decode cX5_out 64 = .ok (.istore 6, 2) := by decide +kernel
theorem dX5_out_66 : decode cX5_out 66 = .ok (.aload_n 0, 1) := by decide +kernel
theorem dX5_out_67 : decode cX5_out 67 = .ok (.getfield 16, 3) := by decide +kernel
theorem dX5_out_70 : decode cX5_out 70 = .ok (.bipush 10, 2) := by decide +kernel
theorem dX5_out_72 : decode cX5_out 72 = .ok (.iload 6, 2) := by decide +kernel
theorem dX5_out_74 : decode cX5_out 74 = .ok (.iadd, 1) := by decide +kernel
theorem dX5_out_75 : decode cX5_out 75 = .ok (.iaload, 1) := by decide +kernel
theorem dX5_out_76 : decode cX5_out 76 = .ok (.ifCond .ne 9, 3) := by decide +kernel
theorem dX5_out_79 : decode cX5_out 79 = .ok (.iinc 6 (-1), 3) := by decide +kernel
theorem dX5_out_82 : decode cX5_out 82 = .ok (.goto (-16), 3) := by decide +kernel
theorem dX5_out_85 : decode cX5_out 85 = .ok (.aload_n 0, 1) := by decide +kernel
theorem dX5_out_86 : decode cX5_out 86 = .ok (.getfield 16, 3) := by decide +kernel
theorem dX5_out_89 : decode cX5_out 89 = .ok (.bipush 10, 2) := by decide +kernel
theorem dX5_out_91 : decode cX5_out 91 = .ok (.iload 6, 2) := by decide +kernel
theorem dX5_out_93 : decode cX5_out 93 = .ok (.iadd, 1) := by decide +kernel
theorem dX5_out_94 : decode cX5_out 94 = .ok (.dup2, 1) := by decide +kernel
theorem dX5_out_95 : decode cX5_out 95 = .ok (.iaload, 1) := by decide +kernel
theorem dX5_out_96 : decode cX5_out 96 = .ok (.iconst 1, 1) := by decide +kernel
theorem dX5_out_97 : decode cX5_out 97 = .ok (.isub, 1) := by decide +kernel
theorem dX5_out_98 : decode cX5_out 98 = .ok (.iastore, 1) := by decide +kernel
theorem dX5_out_99 : decode cX5_out 99 = .ok (.iinc 5 1, 3) := by decide +kernel
theorem dX5_out_102 : decode cX5_out 102 = .ok (.goto (-46), 3) := by decide +kernel
theorem dX5_out_105 : decode cX5_out 105 = .ok (.aload_n 0, 1) := by decide +kernel
theorem dX5_out_106 : decode cX5_out 106 = .ok (.iload_n 1, 1) := by decide +kernel
theorem dX5_out_107 : decode cX5_out 107 = .ok (.invokevirtual 171, 3) := by decide +kernel
theorem dX5_out_110 : decode cX5_out 110 = .ok (.iload 4, 2) := by decide +kernel
theorem dX5_out_112 : decode cX5_out 112 = .ok (.aload_n 0, 1) := by decide +kernel
theorem dX5_out_113 : decode cX5_out 113 = .ok (.getfield 13, 3) := by decide +kernel
theorem dX5_out_116 : decode cX5_out 116 = .ok (.iconst 5, 1) := by decide +kernel
theorem dX5_out_117 : decode cX5_out 117 = .ok (.iaload, 1) := by decide +kernel
theorem dX5_out_118 : decode cX5_out 118 = .ok (.imul, 1) := by decide +kernel
theorem dX5_out_119 : decode cX5_out 119 = .ok (.isub, 1) := by decide +kernel
theorem dX5_out_120 : decode cX5_out 120 = .ok (.istore 5, 2) := by decide +kernel
theorem dX5_out_122 : decode cX5_out 122 = .ok (.iload 4, 2) := by decide +kernel
theorem dX5_out_124 : decode cX5_out 124 = .ok (.ifCond .eq 9, 3) := by decide +kernel
theorem dX5_out_127 : decode cX5_out 127 = .ok (.iload 5, 2) := by decide +kernel
theorem dX5_out_129 : decode cX5_out 129 = .ok (.iload_n 3, 1) := by decide +kernel
theorem dX5_out_130 : decode cX5_out 130 = .ok (.if_icmp .le 9, 3) := by decide +kernel
theorem dX5_out_133 : decode cX5_out 133 = .ok (.iload 5, 2) := by decide +kernel
theorem dX5_out_135 : decode cX5_out 135 = .ok (.istore_n 3, 1) := by decide +kernel
theorem dX5_out_136 : decode cX5_out 136 = .ok (.iload 4, 2) := by decide +kernel
theorem dX5_out_138 : decode cX5_out 138 = .ok (.istore_n 2, 1) := by decide +kernel
theorem dX5_out_139 : decode cX5_out 139 = .ok (.iinc 4 1, 3) := by decide +kernel
theorem dX5_out_142 : decode cX5_out 142 = .ok (.goto (-117), 3) := by decide +kernel
theorem dX5_out_145 : decode cX5_out 145 = .ok (.iload_n 2, 1) := by decide +kernel
theorem dX5_out_146 : decode cX5_out 146 = .ok (.ireturn, 1) := by decide +kernel
theorem dX5_less_0 : decode cX5_less 0 = .ok (.aload_n 0, 1) := by decide +kernel
theorem dX5_less_1 : decode cX5_less 1 = .ok (.iload_n 1, 1) := by decide +kernel
theorem dX5_less_2 : decode cX5_less 2 = .ok (.invokevirtual 164, 3) := by decide +kernel
theorem dX5_less_5 : decode cX5_less 5 = .ok (.ifCond .ge 13, 3) := by decide +kernel
theorem dX5_less_8 : decode cX5_less 8 = .ok (.aload_n 0, 1) := by decide +kernel
theorem dX5_less_9 : decode cX5_less 9 = .ok (.aload_n 0, 1) := by decide +kernel
theorem dX5_less_10 : decode cX5_less 10 = .ok (.iload_n 1, 1) := by decide +kernel
theorem dX5_less_11 : decode cX5_less 11 = .ok (.invokevirtual 164, 3) := by decide +kernel
theorem dX5_less_14 : decode cX5_less 14 = .ok (.invokevirtual 64, 3) := by decide +kernel
theorem dX5_less_17 : decode cX5_less 17 = .ok (.ireturn, 1) := by decide +kernel
theorem dX5_less_18 : decode cX5_less 18 = .ok (.aload_n 0, 1) := by decide +kernel
theorem dX5_less_19 : decode cX5_less 19 = .ok (.invokevirtual 174, 3) := by decide +kernel
theorem dX5_less_22 : decode cX5_less 22 = .ok (.ifCond .ne 6, 3) := by decide +kernel
theorem dX5_less_25 : decode cX5_less 25 = .ok (.bipush (-9), 2) := by decide +kernel
theorem dX5_less_27 : decode cX5_less 27 = .ok (.ireturn, 1) := by decide +kernel
theorem dX5_less_28 : decode cX5_less 28 = .ok (.iconst 0, 1) := by decide +kernel
theorem dX5_less_29 : decode cX5_less 29 = .ok (.istore_n 2, 1) := by decide +kernel
theorem dX5_less_30 : decode cX5_less 30 = .ok (.iconst 0, 1) := by decide +kernel
theorem dX5_less_31 : decode cX5_less 31 = .ok (.istore_n 3, 1) := by decide +kernel
theorem dX5_less_32 : decode cX5_less 32 = .ok (.iconst 0, 1) := by decide +kernel
theorem dX5_less_33 : decode cX5_less 33 = .ok (.istore 4, 2) := by decide +kernel
theorem dX5_less_35 : decode cX5_less 35 = .ok (.iload 4, 2) := by decide +kernel
theorem dX5_less_37 : decode cX5_less 37 = .ok (.aload_n 0, 1) := by decide +kernel
theorem dX5_less_38 : decode cX5_less 38 = .ok (.getfield 13, 3) := by decide +kernel
theorem dX5_less_41 : decode cX5_less 41 = .ok (.iconst 2, 1) := by decide +kernel
theorem dX5_less_42 : decode cX5_less 42 = .ok (.iaload, 1) := by decide +kernel
theorem dX5_less_43 : decode cX5_less 43 = .ok (.if_icmp .gt 52, 3) := by decide +kernel
theorem dX5_less_46 : decode cX5_less 46 = .ok (.aload_n 0, 1) := by decide +kernel
theorem dX5_less_47 : decode cX5_less 47 = .ok (.getfield 13, 3) := by decide +kernel
theorem dX5_less_50 : decode cX5_less 50 = .ok (.aload_n 0, 1) := by decide +kernel
theorem dX5_less_51 : decode cX5_less 51 = .ok (.getfield 16, 3) := by decide +kernel
theorem dX5_less_54 : decode cX5_less 54 = .ok (.invokestatic 60, 3) := by decide +kernel
theorem dX5_less_57 : decode cX5_less 57 = .ok (.aload_n 0, 1) := by decide +kernel
theorem dX5_less_58 : decode cX5_less 58 = .ok (.iload_n 1, 1) := by decide +kernel
theorem dX5_less_59 : decode cX5_less 59 = .ok (.iload 4, 2) := by decide +kernel
theorem dX5_less_61 : decode cX5_less 61 = .ok (.invokevirtual 115, 3) := by decide +kernel
theorem dX5_less_64 : decode cX5_less 64 = .ok (.iload 4, 2) := by decide +kernel
theorem dX5_less_66 : decode cX5_less 66 = .ok (.ifCond .eq 13, 3) := by decide +kernel
theorem dX5_less_69 : decode cX5_less 69 = .ok (.aload_n 0, 1) := by decide +kernel
theorem dX5_less_70 : decode cX5_less 70 = .ok (.getfield 28, 3) := by decide +kernel
theorem dX5_less_73 : decode cX5_less 73 = .ok (.iconst 0, 1) := by decide +kernel
theorem dX5_less_74 : decode cX5_less 74 = .ok (.iaload, 1) := by decide +kernel
theorem dX5_less_75 : decode cX5_less 75 = .ok (.iload_n 3, 1) := by decide +kernel
theorem dX5_less_76 : decode cX5_less 76 = .ok (.if_icmp .le 13, 3) := by decide +kernel
theorem dX5_less_79 : decode cX5_less 79 = .ok (.aload_n 0, 1) := by decide +kernel
theorem dX5_less_80 : decode cX5_less 80 = .ok (.getfield 28, 3) := by decide +kernel
theorem dX5_less_83 : decode cX5_less 83 = .ok (.iconst 0, 1) := by decide +kernel
theorem dX5_less_84 : decode cX5_less 84 = .ok (.iaload, 1) := by decide +kernel
theorem dX5_less_85 : decode cX5_less 85 = .ok (.istore_n 3, 1) := by decide +kernel
theorem dX5_less_86 : decode cX5_less 86 = .ok (.iload 4, 2) := by decide +kernel
theorem dX5_less_88 : decode cX5_less 88 = .ok (.istore_n 2, 1) := by decide +kernel
theorem dX5_less_89 : decode cX5_less 89 = .ok (.iinc 4 1, 3) := by decide +kernel
theorem dX5_less_92 : decode cX5_less 92 = .ok (.goto (-57), 3) := by decide +kernel
theorem dX5_less_95 : decode cX5_less 95 = .ok (.iload_n 2, 1) := by decide +kernel
theorem dX5_less_96 : decode cX5_less 96 = .ok (.ireturn, 1) := by decide +kernel
theorem dX5_bestAt_0 : decode cX5_bestAt 0 = .ok (.iconst 0, 1) := by decide +kernel
theorem dX5_bestAt_1 : decode cX5_bestAt 1 = .ok (.istore 4, 2) := by decide +kernel
theorem dX5_bestAt_3 : decode cX5_bestAt 3 = .ok (.iconst 0, 1) := by decide +kernel
theorem dX5_bestAt_4 : decode cX5_bestAt 4 = .ok (.istore 5, 2) := by decide +kernel
theorem dX5_bestAt_6 : decode cX5_bestAt 6 = .ok (.iload 5, 2) := by decide +kernel
theorem dX5_bestAt_8 : decode cX5_bestAt 8 = .ok (.iload_n 2, 1) := by decide +kernel
theorem dX5_bestAt_9 : decode cX5_bestAt 9 = .ok (.if_icmp .gt 59, 3) := by decide +kernel
theorem dX5_bestAt_12 : decode cX5_bestAt 12 = .ok (.aload_n 0, 1) := by decide +kernel
theorem dX5_bestAt_13 : decode cX5_bestAt 13 = .ok (.getfield 13, 3) := by decide +kernel
theorem dX5_bestAt_16 : decode cX5_bestAt 16 = .ok (.aload_n 0, 1) := by decide +kernel
theorem dX5_bestAt_17 : decode cX5_bestAt 17 = .ok (.getfield 16, 3) := by decide +kernel
theorem dX5_bestAt_20 : decode cX5_bestAt 20 = .ok (.invokestatic 60, 3) := by decide +kernel
theorem dX5_bestAt_23 : decode cX5_bestAt 23 = .ok (.aload_n 0, 1) := by decide +kernel
theorem dX5_bestAt_24 : decode cX5_bestAt 24 = .ok (.getfield 16, 3) := by decide +kernel
theorem dX5_bestAt_27 : decode cX5_bestAt 27 = .ok (.iload_n 1, 1) := by decide +kernel
theorem dX5_bestAt_28 : decode cX5_bestAt 28 = .ok (.iload 5, 2) := by decide +kernel
theorem dX5_bestAt_30 : decode cX5_bestAt 30 = .ok (.iastore, 1) := by decide +kernel
theorem dX5_bestAt_31 : decode cX5_bestAt 31 = .ok (.aload_n 0, 1) := by decide +kernel
theorem dX5_bestAt_32 : decode cX5_bestAt 32 = .ok (.iload_n 3, 1) := by decide +kernel
theorem dX5_bestAt_33 : decode cX5_bestAt 33 = .ok (.invokevirtual 171, 3) := by decide +kernel
theorem dX5_bestAt_36 : decode cX5_bestAt 36 = .ok (.istore 6, 2) := by decide +kernel
theorem dX5_bestAt_38 : decode cX5_bestAt 38 = .ok (.iload 5, 2) := by decide +kernel
theorem dX5_bestAt_40 : decode cX5_bestAt 40 = .ok (.ifCond .eq 12, 3) := by decide +kernel
theorem dX5_bestAt_43 : decode cX5_bestAt 43 = .ok (.iload 6, 2) := by decide +kernel
theorem dX5_bestAt_45 : decode cX5_bestAt 45 = .ok (.aload_n 0, 1) := by decide +kernel
theorem dX5_bestAt_46 : decode cX5_bestAt 46 = .ok (.getfield 177, 3) := by decide +kernel
theorem dX5_bestAt_49 : decode cX5_bestAt 49 = .ok (.if_icmp .le 13, 3) := by decide +kernel
theorem dX5_bestAt_52 : decode cX5_bestAt 52 = .ok (.aload_n 0, 1) := by decide +kernel
theorem dX5_bestAt_53 : decode cX5_bestAt 53 = .ok (.iload 6, 2) := by decide +kernel
theorem dX5_bestAt_55 : decode cX5_bestAt 55 = .ok (.putfield 177, 3) := by decide +kernel
theorem dX5_bestAt_58 : decode cX5_bestAt 58 = .ok (.iload 5, 2) := by decide +kernel
theorem dX5_bestAt_60 : decode cX5_bestAt 60 = .ok (.istore 4, 2) := by decide +kernel
theorem dX5_bestAt_62 : decode cX5_bestAt 62 = .ok (.iinc 5 1, 3) := by decide +kernel
theorem dX5_bestAt_65 : decode cX5_bestAt 65 = .ok (.goto (-59), 3) := by decide +kernel
theorem dX5_bestAt_68 : decode cX5_bestAt 68 = .ok (.iload 4, 2) := by decide +kernel
theorem dX5_bestAt_70 : decode cX5_bestAt 70 = .ok (.ireturn, 1) := by decide +kernel
theorem dX5_best_0 : decode cX5_best 0 = .ok (.aload_n 0, 1) := by decide +kernel
theorem dX5_best_1 : decode cX5_best 1 = .ok (.iload_n 1, 1) := by decide +kernel
theorem dX5_best_2 : decode cX5_best 2 = .ok (.invokevirtual 164, 3) := by decide +kernel
theorem dX5_best_5 : decode cX5_best 5 = .ok (.ifCond .ge 15, 3) := by decide +kernel
theorem dX5_best_8 : decode cX5_best 8 = .ok (.aload_n 0, 1) := by decide +kernel
theorem dX5_best_9 : decode cX5_best 9 = .ok (.aload_n 0, 1) := by decide +kernel
theorem dX5_best_10 : decode cX5_best 10 = .ok (.iload_n 1, 1) := by decide +kernel
theorem dX5_best_11 : decode cX5_best 11 = .ok (.invokevirtual 164, 3) := by decide +kernel
theorem dX5_best_14 : decode cX5_best 14 = .ok (.invokevirtual 64, 3) := by decide +kernel
theorem dX5_best_17 : decode cX5_best 17 = .ok (.goto 11, 3) := by decide +kernel
theorem dX5_best_20 : decode cX5_best 20 = .ok (.aload_n 0, 1) := by decide +kernel
theorem dX5_best_21 : decode cX5_best 21 = .ok (.bipush 7, 2) := by decide +kernel
theorem dX5_best_23 : decode cX5_best 23 = .ok (.iconst 5, 1) := by decide +kernel
theorem dX5_best_24 : decode cX5_best 24 = .ok (.iload_n 1, 1) := by decide +kernel
theorem dX5_best_25 : decode cX5_best 25 = .ok (.invokevirtual 180, 3) := by decide +kernel
theorem dX5_best_28 : decode cX5_best 28 = .ok (.ireturn, 1) := by decide +kernel
theorem dX5_buying_0 : decode cX5_buying 0 = .ok (.aload_n 0, 1) := by decide +kernel
theorem dX5_buying_1 : decode cX5_buying 1 = .ok (.iload_n 1, 1) := by decide +kernel
theorem dX5_buying_2 : decode cX5_buying 2 = .ok (.invokevirtual 164, 3) := by decide +kernel
theorem dX5_buying_5 : decode cX5_buying 5 = .ok (.ifCond .ge 15, 3) := by decide +kernel
theorem dX5_buying_8 : decode cX5_buying 8 = .ok (.aload_n 0, 1) := by decide +kernel
theorem dX5_buying_9 : decode cX5_buying 9 = .ok (.aload_n 0, 1) := by decide +kernel
theorem dX5_buying_10 : decode cX5_buying 10 = .ok (.iload_n 1, 1) := by decide +kernel
theorem dX5_buying_11 : decode cX5_buying 11 = .ok (.invokevirtual 164, 3) := by decide +kernel
theorem dX5_buying_14 : decode cX5_buying 14 = .ok (.invokevirtual 64, 3) := by decide +kernel
theorem dX5_buying_17 : decode cX5_buying 17 = .ok (.goto 11, 3) := by decide +kernel
theorem dX5_buying_20 : decode cX5_buying 20 = .ok (.aload_n 0, 1) := by decide +kernel
theorem dX5_buying_21 : decode cX5_buying 21 = .ok (.iconst 2, 1) := by decide +kernel
theorem dX5_buying_22 : decode cX5_buying 22 = .ok (.bipush 30, 2) := by decide +kernel
theorem dX5_buying_24 : decode cX5_buying 24 = .ok (.iload_n 1, 1) := by decide +kernel
theorem dX5_buying_25 : decode cX5_buying 25 = .ok (.invokevirtual 180, 3) := by decide +kernel
theorem dX5_buying_28 : decode cX5_buying 28 = .ok (.ireturn, 1) := by decide +kernel
theorem dX5_half_0 : decode cX5_half 0 = .ok (.aload_n 0, 1) := by decide +kernel
theorem dX5_half_1 : decode cX5_half 1 = .ok (.iload_n 1, 1) := by decide +kernel
theorem dX5_half_2 : decode cX5_half 2 = .ok (.invokevirtual 164, 3) := by decide +kernel
theorem dX5_half_5 : decode cX5_half 5 = .ok (.ifCond .ge 15, 3) := by decide +kernel
theorem dX5_half_8 : decode cX5_half 8 = .ok (.aload_n 0, 1) := by decide +kernel
theorem dX5_half_9 : decode cX5_half 9 = .ok (.aload_n 0, 1) := by decide +kernel
theorem dX5_half_10 : decode cX5_half 10 = .ok (.iload_n 1, 1) := by decide +kernel
theorem dX5_half_11 : decode cX5_half 11 = .ok (.invokevirtual 164, 3) := by decide +kernel
theorem dX5_half_14 : decode cX5_half 14 = .ok (.invokevirtual 64, 3) := by decide +kernel
theorem dX5_half_17 : decode cX5_half 17 = .ok (.goto 11, 3) := by decide +kernel
theorem dX5_half_20 : decode cX5_half 20 = .ok (.aload_n 0, 1) := by decide +kernel
theorem dX5_half_21 : decode cX5_half 21 = .ok (.iconst 3, 1) := by decide +kernel
theorem dX5_half_22 : decode cX5_half 22 = .ok (.bipush 9, 2) := by decide +kernel
theorem dX5_half_24 : decode cX5_half 24 = .ok (.iload_n 1, 1) := by decide +kernel
theorem dX5_half_25 : decode cX5_half 25 = .ok (.invokevirtual 180, 3) := by decide +kernel
theorem dX5_half_28 : decode cX5_half 28 = .ok (.ireturn, 1) := by decide +kernel
theorem dX5_pays_0 : decode cX5_pays 0 = .ok (.aload_n 0, 1) := by decide +kernel
theorem dX5_pays_1 : decode cX5_pays 1 = .ok (.iload_n 1, 1) := by decide +kernel
theorem dX5_pays_2 : decode cX5_pays 2 = .ok (.invokevirtual 164, 3) := by decide +kernel
theorem dX5_pays_5 : decode cX5_pays 5 = .ok (.ifCond .ge 16, 3) := by decide +kernel
theorem dX5_pays_8 : decode cX5_pays 8 = .ok (.ldc 163, 2) := by decide +kernel
theorem dX5_pays_10 : decode cX5_pays 10 = .ok (.aload_n 0, 1) := by decide +kernel
theorem dX5_pays_11 : decode cX5_pays 11 = .ok (.aload_n 0, 1) := by decide +kernel
theorem dX5_pays_12 : decode cX5_pays 12 = .ok (.iload_n 1, 1) := by decide +kernel
theorem dX5_pays_13 : decode cX5_pays 13 = .ok (.invokevirtual 164, 3) := by decide +kernel
theorem dX5_pays_16 : decode cX5_pays 16 = .ok (.invokevirtual 64, 3) := by decide +kernel
theorem dX5_pays_19 : decode cX5_pays 19 = .ok (.isub, 1) := by decide +kernel
theorem dX5_pays_20 : decode cX5_pays 20 = .ok (.ireturn, 1) := by decide +kernel
theorem dX5_pays_21 : decode cX5_pays 21 = .ok (.aload_n 0, 1) := by decide +kernel
theorem dX5_pays_22 : decode cX5_pays 22 = .ok (.iconst 3, 1) := by decide +kernel
theorem dX5_pays_23 : decode cX5_pays 23 = .ok (.bipush 9, 2) := by decide +kernel
theorem dX5_pays_25 : decode cX5_pays 25 = .ok (.iload_n 1, 1) := by decide +kernel
theorem dX5_pays_26 : decode cX5_pays 26 = .ok (.invokevirtual 180, 3) := by decide +kernel
theorem dX5_pays_29 : decode cX5_pays 29 = .ok (.pop, 1) := by decide +kernel
theorem dX5_pays_30 : decode cX5_pays 30 = .ok (.aload_n 0, 1) := by decide +kernel
theorem dX5_pays_31 : decode cX5_pays 31 = .ok (.getfield 177, 3) := by decide +kernel
theorem dX5_pays_34 : decode cX5_pays 34 = .ok (.istore_n 2, 1) := by decide +kernel
theorem dX5_pays_35 : decode cX5_pays 35 = .ok (.aload_n 0, 1) := by decide +kernel
theorem dX5_pays_36 : decode cX5_pays 36 = .ok (.getfield 13, 3) := by decide +kernel
theorem dX5_pays_39 : decode cX5_pays 39 = .ok (.aload_n 0, 1) := by decide +kernel
theorem dX5_pays_40 : decode cX5_pays 40 = .ok (.getfield 16, 3) := by decide +kernel
theorem dX5_pays_43 : decode cX5_pays 43 = .ok (.invokestatic 60, 3) := by decide +kernel
theorem dX5_pays_46 : decode cX5_pays 46 = .ok (.aload_n 0, 1) := by decide +kernel
theorem dX5_pays_47 : decode cX5_pays 47 = .ok (.getfield 16, 3) := by decide +kernel
theorem dX5_pays_50 : decode cX5_pays 50 = .ok (.iconst 3, 1) := by decide +kernel
theorem dX5_pays_51 : decode cX5_pays 51 = .ok (.iconst 0, 1) := by decide +kernel
theorem dX5_pays_52 : decode cX5_pays 52 = .ok (.iastore, 1) := by decide +kernel
theorem dX5_pays_53 : decode cX5_pays 53 = .ok (.iload_n 2, 1) := by decide +kernel
theorem dX5_pays_54 : decode cX5_pays 54 = .ok (.aload_n 0, 1) := by decide +kernel
theorem dX5_pays_55 : decode cX5_pays 55 = .ok (.iload_n 1, 1) := by decide +kernel
theorem dX5_pays_56 : decode cX5_pays 56 = .ok (.invokevirtual 171, 3) := by decide +kernel
theorem dX5_pays_59 : decode cX5_pays 59 = .ok (.isub, 1) := by decide +kernel
theorem dX5_pays_60 : decode cX5_pays 60 = .ok (.ireturn, 1) := by decide +kernel
theorem dX5_close_0 : decode cX5_close 0 = .ok (.bipush (-9), 2) := by decide +kernel
theorem dX5_close_2 : decode cX5_close 2 = .ok (.istore_n 1, 1) := by decide +kernel
theorem dX5_close_3 : decode cX5_close 3 = .ok (.iconst 0, 1) := by decide +kernel
theorem dX5_close_4 : decode cX5_close 4 = .ok (.istore_n 2, 1) := by decide +kernel
theorem dX5_close_5 : decode cX5_close 5 = .ok (.iconst 0, 1) := by decide +kernel
theorem dX5_close_6 : decode cX5_close 6 = .ok (.istore_n 3, 1) := by decide +kernel
theorem dX5_close_7 : decode cX5_close 7 = .ok (.iload_n 3, 1) := by decide +kernel
theorem dX5_close_8 : decode cX5_close 8 = .ok (.bipush 7, 2) := by decide +kernel
theorem dX5_close_10 : decode cX5_close 10 = .ok (.if_icmp .ge 68, 3) := by decide +kernel
theorem dX5_close_13 : decode cX5_close 13 = .ok (.aload_n 0, 1) := by decide +kernel
theorem dX5_close_14 : decode cX5_close 14 = .ok (.getfield 13, 3) := by decide +kernel
theorem dX5_close_17 : decode cX5_close 17 = .ok (.bipush 20, 2) := by decide +kernel
theorem dX5_close_19 : decode cX5_close 19 = .ok (.iload_n 3, 1) := by decide +kernel
theorem dX5_close_20 : decode cX5_close 20 = .ok (.iadd, 1) := by decide +kernel
theorem dX5_close_21 : decode cX5_close 21 = .ok (.iaload, 1) := by decide +kernel
theorem dX5_close_22 : decode cX5_close 22 = .ok (.iconst 1, 1) := by decide +kernel
theorem dX5_close_23 : decode cX5_close 23 = .ok (.if_icmp .ne 49, 3) := by decide +kernel
theorem dX5_close_26 : decode cX5_close 26 = .ok (.aload_n 0, 1) := by decide +kernel
theorem dX5_close_27 : decode cX5_close 27 = .ok (.getfield 13, 3) := by decide +kernel
theorem dX5_close_30 : decode cX5_close 30 = .ok (.aload_n 0, 1) := by decide +kernel
theorem dX5_close_31 : decode cX5_close 31 = .ok (.getfield 16, 3) := by decide +kernel
theorem dX5_close_34 : decode cX5_close 34 = .ok (.invokestatic 60, 3) := by decide +kernel
theorem dX5_close_37 : decode cX5_close 37 = .ok (.aload_n 0, 1) := by decide +kernel
theorem dX5_close_38 : decode cX5_close 38 = .ok (.getfield 16, 3) := by decide +kernel
theorem dX5_close_41 : decode cX5_close 41 = .ok (.bipush 20, 2) := by decide +kernel
theorem dX5_close_43 : decode cX5_close 43 = .ok (.iload_n 3, 1) := by decide +kernel
theorem dX5_close_44 : decode cX5_close 44 = .ok (.iadd, 1) := by decide +kernel
theorem dX5_close_45 : decode cX5_close 45 = .ok (.iconst 0, 1) := by decide +kernel
theorem dX5_close_46 : decode cX5_close 46 = .ok (.iastore, 1) := by decide +kernel
theorem dX5_close_47 : decode cX5_close 47 = .ok (.aload_n 0, 1) := by decide +kernel
theorem dX5_close_48 : decode cX5_close 48 = .ok (.bipush 14, 2) := by decide +kernel
theorem dX5_close_50 : decode cX5_close 50 = .ok (.invokevirtual 171, 3) := by decide +kernel
theorem dX5_close_53 : decode cX5_close 53 = .ok (.istore 4, 2) := by decide +kernel
theorem dX5_close_55 : decode cX5_close 55 = .ok (.iload_n 1, 1) := by decide +kernel
theorem dX5_close_56 : decode cX5_close 56 = .ok (.bipush (-9), 2) := by decide +kernel
theorem dX5_close_58 : decode cX5_close 58 = .ok (.if_icmp .eq 9, 3) := by decide +kernel
theorem dX5_close_61 : decode cX5_close 61 = .ok (.iload 4, 2) := by decide +kernel
theorem dX5_close_63 : decode cX5_close 63 = .ok (.iload_n 2, 1) := by decide +kernel
theorem dX5_close_64 : decode cX5_close 64 = .ok (.if_icmp .le 8, 3) := by decide +kernel
theorem dX5_close_67 : decode cX5_close 67 = .ok (.iload 4, 2) := by decide +kernel
theorem dX5_close_69 : decode cX5_close 69 = .ok (.istore_n 2, 1) := by decide +kernel
theorem dX5_close_70 : decode cX5_close 70 = .ok (.iload_n 3, 1) := by decide +kernel
theorem dX5_close_71 : decode cX5_close 71 = .ok (.istore_n 1, 1) := by decide +kernel
theorem dX5_close_72 : decode cX5_close 72 = .ok (.iinc 3 1, 3) := by decide +kernel
theorem dX5_close_75 : decode cX5_close 75 = .ok (.goto (-68), 3) := by decide +kernel
theorem dX5_close_78 : decode cX5_close 78 = .ok (.iload_n 1, 1) := by decide +kernel
theorem dX5_close_79 : decode cX5_close 79 = .ok (.ireturn, 1) := by decide +kernel
theorem dX5_openDays_0 : decode cX5_openDays 0 = .ok (.iconst 0, 1) := by decide +kernel
theorem dX5_openDays_1 : decode cX5_openDays 1 = .ok (.istore_n 1, 1) := by decide +kernel
theorem dX5_openDays_2 : decode cX5_openDays 2 = .ok (.iconst 0, 1) := by decide +kernel
theorem dX5_openDays_3 : decode cX5_openDays 3 = .ok (.istore_n 2, 1) := by decide +kernel
theorem dX5_openDays_4 : decode cX5_openDays 4 = .ok (.iload_n 2, 1) := by decide +kernel
theorem dX5_openDays_5 : decode cX5_openDays 5 = .ok (.bipush 7, 2) := by decide +kernel
theorem dX5_openDays_7 : decode cX5_openDays 7 = .ok (.if_icmp .ge 21, 3) := by decide +kernel
theorem dX5_openDays_10 : decode cX5_openDays 10 = .ok (.iload_n 1, 1) := by decide +kernel
theorem dX5_openDays_11 : decode cX5_openDays 11 = .ok (.aload_n 0, 1) := by decide +kernel
theorem dX5_openDays_12 : decode cX5_openDays 12 = .ok (.getfield 13, 3) := by decide +kernel
theorem dX5_openDays_15 : decode cX5_openDays 15 = .ok (.bipush 20, 2) := by decide +kernel
theorem dX5_openDays_17 : decode cX5_openDays 17 = .ok (.iload_n 2, 1) := by decide +kernel
theorem dX5_openDays_18 : decode cX5_openDays 18 = .ok (.iadd, 1) := by decide +kernel
theorem dX5_openDays_19 : decode cX5_openDays 19 = .ok (.iaload, 1) := by decide +kernel
theorem dX5_openDays_20 : decode cX5_openDays 20 = .ok (.iadd, 1) := by decide +kernel
theorem dX5_openDays_21 : decode cX5_openDays 21 = .ok (.istore_n 1, 1) := by decide +kernel
theorem dX5_openDays_22 : decode cX5_openDays 22 = .ok (.iinc 2 1, 3) := by decide +kernel
theorem dX5_openDays_25 : decode cX5_openDays 25 = .ok (.goto (-21), 3) := by decide +kernel
theorem dX5_openDays_28 : decode cX5_openDays 28 = .ok (.iload_n 1, 1) := by decide +kernel
theorem dX5_openDays_29 : decode cX5_openDays 29 = .ok (.ireturn, 1) := by decide +kernel
theorem dX5_mean_0 : decode cX5_mean 0 = .ok (.iload_n 1, 1) := by decide +kernel
theorem dX5_mean_1 : decode cX5_mean 1 = .ok (.ifCond .eq 20, 3) := by decide +kernel
theorem dX5_mean_4 : decode cX5_mean 4 = .ok (.iload_n 1, 1) := by decide +kernel
theorem dX5_mean_5 : decode cX5_mean 5 = .ok (.iconst 1, 1) := by decide +kernel
theorem dX5_mean_6 : decode cX5_mean 6 = .ok (.if_icmp .eq 15, 3) := by decide +kernel
theorem dX5_mean_9 : decode cX5_mean 9 = .ok (.ldc2_w 183, 3) := by decide +kernel
theorem dX5_mean_12 : decode cX5_mean 12 = .ok (.aload_n 0, 1) := by decide +kernel
theorem dX5_mean_13 : decode cX5_mean 13 = .ok (.bipush (-2), 2) := by decide +kernel
theorem dX5_mean_15 : decode cX5_mean 15 = .ok (.invokevirtual 64, 3) := by decide +kernel
theorem dX5_mean_18 : decode cX5_mean 18 = .ok (.i2l, 1) := by decide +kernel
theorem dX5_mean_19 : decode cX5_mean 19 = .ok (.lsub, 1) := by decide +kernel
theorem dX5_mean_20 : decode cX5_mean 20 = .ok (.lreturn, 1) := by decide +kernel
theorem dX5_mean_21 : decode cX5_mean 21 = .ok (.lconst 0, 1) := by decide +kernel
theorem dX5_mean_22 : decode cX5_mean 22 = .ok (.lstore_n 2, 1) := by decide +kernel
theorem dX5_mean_23 : decode cX5_mean 23 = .ok (.lconst 1, 1) := by decide +kernel
theorem dX5_mean_24 : decode cX5_mean 24 = .ok (.lstore 4, 2) := by decide +kernel
theorem dX5_mean_26 : decode cX5_mean 26 = .ok (.iconst 0, 1) := by decide +kernel
theorem dX5_mean_27 : decode cX5_mean 27 = .ok (.istore 6, 2) := by decide +kernel
theorem dX5_mean_29 : decode cX5_mean 29 = .ok (.iload 6, 2) := by decide +kernel
theorem dX5_mean_31 : decode cX5_mean 31 = .ok (.aload_n 0, 1) := by decide +kernel
theorem dX5_mean_32 : decode cX5_mean 32 = .ok (.getfield 13, 3) := by decide +kernel
theorem dX5_mean_35 : decode cX5_mean 35 = .ok (.iconst 0, 1) := by decide +kernel
theorem dX5_mean_36 : decode cX5_mean 36 = .ok (.iaload, 1) := by decide +kernel
theorem dX5_mean_37 : decode cX5_mean 37 = .ok (.if_icmp .ge 17, 3) := by decide +kernel
theorem dX5_mean_40 : decode cX5_mean 40 = .ok (.lload 4, 2) := by decide +kernel
theorem dX5_mean_42 : decode cX5_mean 42 = .ok (.ldc2_w 185, 3) := by decide +kernel
theorem dX5_mean_45 : decode cX5_mean 45 = .ok (.lmul, 1) := by decide +kernel
theorem dX5_mean_46 : decode cX5_mean 46 = .ok (.lstore 4, 2) := by decide +kernel
theorem dX5_mean_48 : decode cX5_mean 48 = .ok (.iinc 6 1, 3) := by decide +kernel
theorem dX5_mean_51 : decode cX5_mean 51 = .ok (.goto (-22), 3) := by decide +kernel
theorem dX5_mean_54 : decode cX5_mean 54 = .ok (.iconst 0, 1) := by decide +kernel
theorem dX5_mean_55 : decode cX5_mean 55 = .ok (.istore 6, 2) := by decide +kernel
theorem dX5_mean_57 : decode cX5_mean 57 = .ok (.iload 6, 2) := by decide +kernel
theorem dX5_mean_59 : decode cX5_mean 59 = .ok (.iconst 1, 1) := by decide +kernel
theorem dX5_mean_60 : decode cX5_mean 60 = .ok (.aload_n 0, 1) := by decide +kernel
theorem dX5_mean_61 : decode cX5_mean 61 = .ok (.getfield 13, 3) := by decide +kernel
theorem dX5_mean_64 : decode cX5_mean 64 = .ok (.iconst 0, 1) := by decide +kernel
theorem dX5_mean_65 : decode cX5_mean 65 = .ok (.iaload, 1) := by decide +kernel
theorem dX5_mean_66 : decode cX5_mean 66 = .ok (.ishl, 1) := by decide +kernel
theorem dX5_mean_67 : decode cX5_mean 67 = .ok (.if_icmp .ge 149, 3) := by decide +kernel
theorem dX5_mean_70 : decode cX5_mean 70 = .ok (.aload_n 0, 1) := by decide +kernel
theorem dX5_mean_71 : decode cX5_mean 71 = .ok (.getfield 13, 3) := by decide +kernel
theorem dX5_mean_74 : decode cX5_mean 74 = .ok (.aload_n 0, 1) := by decide +kernel
theorem dX5_mean_75 : decode cX5_mean 75 = .ok (.getfield 16, 3) := by decide +kernel
theorem dX5_mean_78 : decode cX5_mean 78 = .ok (.invokestatic 60, 3) := by decide +kernel
theorem dX5_mean_81 : decode cX5_mean 81 = .ok (.lconst 1, 1) := by decide +kernel
theorem dX5_mean_82 : decode cX5_mean 82 = .ok (.lstore 7, 2) := by decide +kernel
theorem dX5_mean_84 : decode cX5_mean 84 = .ok (.iconst 0, 1) := by decide +kernel
theorem dX5_mean_85 : decode cX5_mean 85 = .ok (.istore 9, 2) := by decide +kernel
theorem dX5_mean_87 : decode cX5_mean 87 = .ok (.iload 9, 2) := by decide +kernel
theorem dX5_mean_89 : decode cX5_mean 89 = .ok (.aload_n 0, 1) := by decide +kernel
theorem dX5_mean_90 : decode cX5_mean 90 = .ok (.getfield 13, 3) := by decide +kernel
theorem dX5_mean_93 : decode cX5_mean 93 = .ok (.iconst 0, 1) := by decide +kernel
theorem dX5_mean_94 : decode cX5_mean 94 = .ok (.iaload, 1) := by decide +kernel
theorem dX5_mean_95 : decode cX5_mean 95 = .ok (.if_icmp .ge 95, 3) := by decide +kernel
theorem dX5_mean_98 : decode cX5_mean 98 = .ok (.iload 6, 2) := by decide +kernel
theorem dX5_mean_100 : decode cX5_mean 100 = .ok (.iload 9, 2) := by decide +kernel
theorem dX5_mean_102 : decode cX5_mean 102 = .ok (.ishr, 1) := by decide +kernel
theorem dX5_mean_103 : decode cX5_mean 103 = .ok (.iconst 1, 1) := by decide +kernel
theorem dX5_mean_104 : decode cX5_mean 104 = .ok (.iand, 1) := by decide +kernel
theorem dX5_mean_105 : decode cX5_mean 105 = .ok (.iconst 1, 1) := by decide +kernel
theorem dX5_mean_106 : decode cX5_mean 106 = .ok (.if_icmp .ne 7, 3) := by decide +kernel
theorem dX5_mean_109 : decode cX5_mean 109 = .ok (.iconst 1, 1) := by decide +kernel
theorem dX5_mean_110 : decode cX5_mean 110 = .ok (.goto 4, 3) := by decide +kernel
theorem dX5_mean_113 : decode cX5_mean 113 = .ok (.iconst 0, 1) := by decide +kernel
theorem dX5_mean_114 : decode cX5_mean 114 = .ok (.istore 10, 2) := by decide +kernel
theorem dX5_mean_116 : decode cX5_mean 116 = .ok (.aload_n 0, 1) := by decide +kernel
theorem dX5_mean_117 : decode cX5_mean 117 = .ok (.getfield 13, 3) := by decide +kernel
theorem dX5_mean_120 : decode cX5_mean 120 = .ok (.bipush 30, 2) := by decide +kernel
theorem dX5_mean_122 : decode cX5_mean 122 = .ok (.iconst 4, 1) := by decide +kernel
theorem dX5_mean_123 : decode cX5_mean 123 = .ok (.iload 9, 2) := by decide +kernel
theorem dX5_mean_125 : decode cX5_mean 125 = .ok (.imul, 1) := by decide +kernel
theorem dX5_mean_126 : decode cX5_mean 126 = .ok (.iadd, 1) := by decide +kernel
theorem dX5_mean_127 : decode cX5_mean 127 = .ok (.iconst 3, 1) := by decide +kernel
theorem dX5_mean_128 : decode cX5_mean 128 = .ok (.iadd, 1) := by decide +kernel
theorem dX5_mean_129 : decode cX5_mean 129 = .ok (.iaload, 1) := by decide +kernel
theorem dX5_mean_130 : decode cX5_mean 130 = .ok (.istore 11, 2) := by decide +kernel
theorem dX5_mean_132 : decode cX5_mean 132 = .ok (.lload 7, 2) := by decide +kernel
theorem dX5_mean_134 : decode cX5_mean 134 = .ok (.iload 10, 2) := by decide +kernel
theorem dX5_mean_136 : decode cX5_mean 136 = .ok (.ifCond .eq 9, 3) := by decide +kernel
theorem dX5_mean_139 : decode cX5_mean 139 = .ok (.iload 11, 2) := by decide +kernel
theorem dX5_mean_141 : decode cX5_mean 141 = .ok (.i2l, 1) := by decide +kernel
theorem dX5_mean_142 : decode cX5_mean 142 = .ok (.goto 9, 3) := by decide +kernel
theorem dX5_mean_145 : decode cX5_mean 145 = .ok (.bipush 10, 2) := by decide +kernel
theorem dX5_mean_147 : decode cX5_mean 147 = .ok (.iload 11, 2) := by decide +kernel
theorem dX5_mean_149 : decode cX5_mean 149 = .ok (.isub, 1) := by decide +kernel
theorem dX5_mean_150 : decode cX5_mean 150 = .ok (.i2l, 1) := by decide +kernel
theorem dX5_mean_151 : decode cX5_mean 151 = .ok (.lmul, 1) := by decide +kernel
theorem dX5_mean_152 : decode cX5_mean 152 = .ok (.lstore 7, 2) := by decide +kernel
theorem dX5_mean_154 : decode cX5_mean 154 = .ok (.aload_n 0, 1) := by decide +kernel
theorem dX5_mean_155 : decode cX5_mean 155 = .ok (.getfield 22, 3) := by decide +kernel
theorem dX5_mean_158 : decode cX5_mean 158 = .ok (.iload 9, 2) := by decide +kernel
theorem dX5_mean_160 : decode cX5_mean 160 = .ok (.iload 10, 2) := by decide +kernel
theorem dX5_mean_162 : decode cX5_mean 162 = .ok (.ifCond .eq 20, 3) := by decide +kernel
theorem dX5_mean_165 : decode cX5_mean 165 = .ok (.aload_n 0, 1) := by decide +kernel
theorem dX5_mean_166 : decode cX5_mean 166 = .ok (.getfield 13, 3) := by decide +kernel
theorem dX5_mean_169 : decode cX5_mean 169 = .ok (.bipush 30, 2) := by decide +kernel
theorem dX5_mean_171 : decode cX5_mean 171 = .ok (.iconst 4, 1) := by decide +kernel
theorem dX5_mean_172 : decode cX5_mean 172 = .ok (.iload 9, 2) := by decide +kernel
theorem dX5_mean_174 : decode cX5_mean 174 = .ok (.imul, 1) := by decide +kernel
theorem dX5_mean_175 : decode cX5_mean 175 = .ok (.iadd, 1) := by decide +kernel
theorem dX5_mean_176 : decode cX5_mean 176 = .ok (.iconst 1, 1) := by decide +kernel
theorem dX5_mean_177 : decode cX5_mean 177 = .ok (.iadd, 1) := by decide +kernel
theorem dX5_mean_178 : decode cX5_mean 178 = .ok (.iaload, 1) := by decide +kernel
theorem dX5_mean_179 : decode cX5_mean 179 = .ok (.goto 4, 3) := by decide +kernel
theorem dX5_mean_182 : decode cX5_mean 182 = .ok (.iconst 0, 1) := by decide +kernel
theorem dX5_mean_183 : decode cX5_mean 183 = .ok (.iastore, 1) := by decide +kernel
theorem dX5_mean_184 : decode cX5_mean 184 = .ok (.iinc 9 1, 3) := by decide +kernel
theorem dX5_mean_187 : decode cX5_mean 187 = .ok (.goto (-100), 3) := by decide +kernel
theorem dX5_mean_190 : decode cX5_mean 190 = .ok (.aload_n 0, 1) := by decide +kernel
theorem dX5_mean_191 : decode cX5_mean 191 = .ok (.aload_n 0, 1) := by decide +kernel
theorem dX5_mean_192 : decode cX5_mean 192 = .ok (.getfield 16, 3) := by decide +kernel
theorem dX5_mean_195 : decode cX5_mean 195 = .ok (.iconst 0, 1) := by decide +kernel
theorem dX5_mean_196 : decode cX5_mean 196 = .ok (.invokevirtual 111, 3) := by decide +kernel
theorem dX5_mean_199 : decode cX5_mean 199 = .ok (.lload_n 2, 1) := by decide +kernel
theorem dX5_mean_200 : decode cX5_mean 200 = .ok (.lload 7, 2) := by decide +kernel
theorem dX5_mean_202 : decode cX5_mean 202 = .ok (.aload_n 0, 1) := by decide +kernel
theorem dX5_mean_203 : decode cX5_mean 203 = .ok (.getfield 85, 3) := by decide +kernel
theorem dX5_mean_206 : decode cX5_mean 206 = .ok (.i2l, 1) := by decide +kernel
theorem dX5_mean_207 : decode cX5_mean 207 = .ok (.lmul, 1) := by decide +kernel
theorem dX5_mean_208 : decode cX5_mean 208 = .ok (.ladd, 1) := by decide +kernel
theorem dX5_mean_209 : decode cX5_mean 209 = .ok (.lstore_n 2, 1) := by decide +kernel
theorem dX5_mean_210 : decode cX5_mean 210 = .ok (.iinc 6 1, 3) := by decide +kernel
theorem dX5_mean_213 : decode cX5_mean 213 = .ok (.goto (-156), 3) := by decide +kernel
theorem dX5_mean_216 : decode cX5_mean 216 = .ok (.lload_n 2, 1) := by decide +kernel
theorem dX5_mean_217 : decode cX5_mean 217 = .ok (.lconst 0, 1) := by decide +kernel
theorem dX5_mean_218 : decode cX5_mean 218 = .ok (.lcmp, 1) := by decide +kernel
theorem dX5_mean_219 : decode cX5_mean 219 = .ok (.ifCond .ne 6, 3) := by decide +kernel
theorem dX5_mean_222 : decode cX5_mean 222 = .ok (.iload_n 1, 1) := by decide +kernel
theorem dX5_mean_223 : decode cX5_mean 223 = .ok (.i2l, 1) := by decide +kernel
theorem dX5_mean_224 : decode cX5_mean 224 = .ok (.lreturn, 1) := by decide +kernel
theorem dX5_mean_225 : decode cX5_mean 225 = .ok (.lload_n 2, 1) := by decide +kernel
theorem dX5_mean_226 : decode cX5_mean 226 = .ok (.invokestatic 187, 3) := by decide +kernel
theorem dX5_mean_229 : decode cX5_mean 229 = .ok (.lstore 6, 2) := by decide +kernel
theorem dX5_mean_231 : decode cX5_mean 231 = .ok (.lload 4, 2) := by decide +kernel
theorem dX5_mean_233 : decode cX5_mean 233 = .ok (.lstore 8, 2) := by decide +kernel
theorem dX5_mean_235 : decode cX5_mean 235 = .ok (.lload 8, 2) := by decide +kernel
theorem dX5_mean_237 : decode cX5_mean 237 = .ok (.lconst 0, 1) := by decide +kernel
theorem dX5_mean_238 : decode cX5_mean 238 = .ok (.lcmp, 1) := by decide +kernel
theorem dX5_mean_239 : decode cX5_mean 239 = .ok (.ifCond .eq 21, 3) := by decide +kernel
theorem dX5_mean_242 : decode cX5_mean 242 = .ok (.lload 6, 2) := by decide +kernel
theorem dX5_mean_244 : decode cX5_mean 244 = .ok (.lload 8, 2) := by decide +kernel
theorem dX5_mean_246 : decode cX5_mean 246 = .ok (.lrem, 1) := by decide +kernel
theorem dX5_mean_247 : decode cX5_mean 247 = .ok (.lstore 10, 2) := by decide +kernel
theorem dX5_mean_249 : decode cX5_mean 249 = .ok (.lload 8, 2) := by decide +kernel
theorem dX5_mean_251 : decode cX5_mean 251 = .ok (.lstore 6, 2) := by decide +kernel
theorem dX5_mean_253 : decode cX5_mean 253 = .ok (.lload 10, 2) := by decide +kernel
theorem dX5_mean_255 : decode cX5_mean 255 = .ok (.lstore 8, 2) := by decide +kernel
theorem dX5_mean_257 : decode cX5_mean 257 = .ok (.goto (-22), 3) := by decide +kernel
theorem dX5_mean_260 : decode cX5_mean 260 = .ok (.iload_n 1, 1) := by decide +kernel
theorem dX5_mean_261 : decode cX5_mean 261 = .ok (.ifCond .ne 7, 3) := by decide +kernel
theorem dX5_mean_264 : decode cX5_mean 264 = .ok (.lload_n 2, 1) := by decide +kernel
theorem dX5_mean_265 : decode cX5_mean 265 = .ok (.goto 5, 3) := by decide +kernel
theorem dX5_mean_268 : decode cX5_mean 268 = .ok (.lload 4, 2) := by decide +kernel
theorem dX5_mean_270 : decode cX5_mean 270 = .ok (.lload 6, 2) := by decide +kernel
theorem dX5_mean_272 : decode cX5_mean 272 = .ok (.ldiv, 1) := by decide +kernel
theorem dX5_mean_273 : decode cX5_mean 273 = .ok (.lreturn, 1) := by decide +kernel
theorem dX5_likes_0 : decode cX5_likes 0 = .ok (.aload_n 0, 1) := by decide +kernel
theorem dX5_likes_1 : decode cX5_likes 1 = .ok (.iload_n 1, 1) := by decide +kernel
theorem dX5_likes_2 : decode cX5_likes 2 = .ok (.invokevirtual 152, 3) := by decide +kernel
theorem dX5_likes_5 : decode cX5_likes 5 = .ok (.ifCond .eq 9, 3) := by decide +kernel
theorem dX5_likes_8 : decode cX5_likes 8 = .ok (.aload_n 0, 1) := by decide +kernel
theorem dX5_likes_9 : decode cX5_likes 9 = .ok (.iconst (-1), 1) := by decide +kernel
theorem dX5_likes_10 : decode cX5_likes 10 = .ok (.invokevirtual 64, 3) := by decide +kernel
theorem dX5_likes_13 : decode cX5_likes 13 = .ok (.ireturn, 1) := by decide +kernel
theorem dX5_likes_14 : decode cX5_likes 14 = .ok (.bipush (-9), 2) := by decide +kernel
theorem dX5_likes_16 : decode cX5_likes 16 = .ok (.istore_n 2, 1) := by decide +kernel
theorem dX5_likes_17 : decode cX5_likes 17 = .ok (.iconst 0, 1) := by decide +kernel
theorem dX5_likes_18 : decode cX5_likes 18 = .ok (.istore_n 3, 1) := by decide +kernel
theorem dX5_likes_19 : decode cX5_likes 19 = .ok (.iload_n 3, 1) := by decide +kernel
theorem dX5_likes_20 : decode cX5_likes 20 = .ok (.iconst 5, 1) := by decide +kernel
theorem dX5_likes_21 : decode cX5_likes 21 = .ok (.if_icmp .ge 47, 3) := by decide +kernel
theorem dX5_likes_24 : decode cX5_likes 24 = .ok (.aload_n 0, 1) := by decide +kernel
theorem dX5_likes_25 : decode cX5_likes 25 = .ok (.getfield 13, 3) := by decide +kernel
theorem dX5_likes_28 : decode cX5_likes 28 = .ok (.iload_n 1, 1) := by decide +kernel
theorem dX5_likes_29 : decode cX5_likes 29 = .ok (.iload_n 3, 1) := by decide +kernel
theorem dX5_likes_30 : decode cX5_likes 30 = .ok (.invokestatic 74, 3) := by decide +kernel
theorem dX5_likes_33 : decode cX5_likes 33 = .ok (.istore 4, 2) := by decide +kernel
theorem dX5_likes_35 : decode cX5_likes 35 = .ok (.iload 4, 2) := by decide +kernel
theorem dX5_likes_37 : decode cX5_likes 37 = .ok (.ifCond .lt 25, 3) := by decide +kernel
theorem dX5_likes_40 : decode cX5_likes 40 = .ok (.iload_n 2, 1) := by decide +kernel
theorem dX5_likes_41 : decode cX5_likes 41 = .ok (.bipush (-9), 2) := by decide +kernel
theorem dX5_likes_43 : decode cX5_likes 43 = .ok (.if_icmp .eq 17, 3) := by decide +kernel
theorem dX5_likes_46 : decode cX5_likes 46 = .ok (.iload 4, 2) := by decide +kernel
theorem dX5_likes_48 : decode cX5_likes 48 = .ok (.aload_n 0, 1) := by decide +kernel
theorem dX5_likes_49 : decode cX5_likes 49 = .ok (.getfield 13, 3) := by decide +kernel
theorem dX5_likes_52 : decode cX5_likes 52 = .ok (.iload_n 1, 1) := by decide +kernel
theorem dX5_likes_53 : decode cX5_likes 53 = .ok (.iload_n 2, 1) := by decide +kernel
theorem dX5_likes_54 : decode cX5_likes 54 = .ok (.invokestatic 74, 3) := by decide +kernel
theorem dX5_likes_57 : decode cX5_likes 57 = .ok (.if_icmp .le 5, 3) := by decide +kernel
theorem dX5_likes_60 : decode cX5_likes 60 = .ok (.iload_n 3, 1) := by decide +kernel
theorem dX5_likes_61 : decode cX5_likes 61 = .ok (.istore_n 2, 1) := by decide +kernel
theorem dX5_likes_62 : decode cX5_likes 62 = .ok (.iinc 3 1, 3) := by decide +kernel
theorem dX5_likes_65 : decode cX5_likes 65 = .ok (.goto (-46), 3) := by decide +kernel
theorem dX5_likes_68 : decode cX5_likes 68 = .ok (.iload_n 2, 1) := by decide +kernel
theorem dX5_likes_69 : decode cX5_likes 69 = .ok (.ireturn, 1) := by decide +kernel
theorem dX5_whose_0 : decode cX5_whose 0 = .ok (.iload_n 1, 1) := by decide +kernel
theorem dX5_whose_1 : decode cX5_whose 1 = .ok (.invokestatic 156, 3) := by decide +kernel
theorem dX5_whose_4 : decode cX5_whose 4 = .ok (.ifCond .eq 9, 3) := by decide +kernel
theorem dX5_whose_7 : decode cX5_whose 7 = .ok (.aload_n 0, 1) := by decide +kernel
theorem dX5_whose_8 : decode cX5_whose 8 = .ok (.iconst (-1), 1) := by decide +kernel
theorem dX5_whose_9 : decode cX5_whose 9 = .ok (.invokevirtual 64, 3) := by decide +kernel
theorem dX5_whose_12 : decode cX5_whose 12 = .ok (.ireturn, 1) := by decide +kernel
theorem dX5_whose_13 : decode cX5_whose 13 = .ok (.bipush (-9), 2) := by decide +kernel
theorem dX5_whose_15 : decode cX5_whose 15 = .ok (.istore_n 2, 1) := by decide +kernel
theorem dX5_whose_16 : decode cX5_whose 16 = .ok (.iconst 0, 1) := by decide +kernel
theorem dX5_whose_17 : decode cX5_whose 17 = .ok (.istore_n 3, 1) := by decide +kernel
theorem dX5_whose_18 : decode cX5_whose 18 = .ok (.iload_n 3, 1) := by decide +kernel
theorem dX5_whose_19 : decode cX5_whose 19 = .ok (.aload_n 0, 1) := by decide +kernel
theorem dX5_whose_20 : decode cX5_whose 20 = .ok (.getfield 13, 3) := by decide +kernel
theorem dX5_whose_23 : decode cX5_whose 23 = .ok (.iconst 0, 1) := by decide +kernel
theorem dX5_whose_24 : decode cX5_whose 24 = .ok (.iaload, 1) := by decide +kernel
theorem dX5_whose_25 : decode cX5_whose 25 = .ok (.if_icmp .ge 47, 3) := by decide +kernel
theorem dX5_whose_28 : decode cX5_whose 28 = .ok (.aload_n 0, 1) := by decide +kernel
theorem dX5_whose_29 : decode cX5_whose 29 = .ok (.getfield 13, 3) := by decide +kernel
theorem dX5_whose_32 : decode cX5_whose 32 = .ok (.iload_n 3, 1) := by decide +kernel
theorem dX5_whose_33 : decode cX5_whose 33 = .ok (.iload_n 1, 1) := by decide +kernel
theorem dX5_whose_34 : decode cX5_whose 34 = .ok (.invokestatic 74, 3) := by decide +kernel
theorem dX5_whose_37 : decode cX5_whose 37 = .ok (.istore 4, 2) := by decide +kernel
theorem dX5_whose_39 : decode cX5_whose 39 = .ok (.iload 4, 2) := by decide +kernel
theorem dX5_whose_41 : decode cX5_whose 41 = .ok (.ifCond .lt 25, 3) := by decide +kernel
theorem dX5_whose_44 : decode cX5_whose 44 = .ok (.iload_n 2, 1) := by decide +kernel
theorem dX5_whose_45 : decode cX5_whose 45 = .ok (.bipush (-9), 2) := by decide +kernel
theorem dX5_whose_47 : decode cX5_whose 47 = .ok (.if_icmp .eq 17, 3) := by decide +kernel
theorem dX5_whose_50 : decode cX5_whose 50 = .ok (.iload 4, 2) := by decide +kernel
theorem dX5_whose_52 : decode cX5_whose 52 = .ok (.aload_n 0, 1) := by decide +kernel
theorem dX5_whose_53 : decode cX5_whose 53 = .ok (.getfield 13, 3) := by decide +kernel
theorem dX5_whose_56 : decode cX5_whose 56 = .ok (.iload_n 2, 1) := by decide +kernel
theorem dX5_whose_57 : decode cX5_whose 57 = .ok (.iload_n 1, 1) := by decide +kernel
theorem dX5_whose_58 : decode cX5_whose 58 = .ok (.invokestatic 74, 3) := by decide +kernel
theorem dX5_whose_61 : decode cX5_whose 61 = .ok (.if_icmp .le 5, 3) := by decide +kernel
theorem dX5_whose_64 : decode cX5_whose 64 = .ok (.iload_n 3, 1) := by decide +kernel
theorem dX5_whose_65 : decode cX5_whose 65 = .ok (.istore_n 2, 1) := by decide +kernel
theorem dX5_whose_66 : decode cX5_whose 66 = .ok (.iinc 3 1, 3) := by decide +kernel
theorem dX5_whose_69 : decode cX5_whose 69 = .ok (.goto (-51), 3) := by decide +kernel
theorem dX5_whose_72 : decode cX5_whose 72 = .ok (.iload_n 2, 1) := by decide +kernel
theorem dX5_whose_73 : decode cX5_whose 73 = .ok (.ireturn, 1) := by decide +kernel
theorem dX5_shared_0 : decode cX5_shared 0 = .ok (.iload_n 1, 1) := by decide +kernel
theorem dX5_shared_1 : decode cX5_shared 1 = .ok (.iload_n 2, 1) := by decide +kernel
theorem dX5_shared_2 : decode cX5_shared 2 = .ok (.if_icmp .ne 5, 3) := by decide +kernel
theorem dX5_shared_5 : decode cX5_shared 5 = .ok (.iconst 0, 1) := by decide +kernel
theorem dX5_shared_6 : decode cX5_shared 6 = .ok (.ireturn, 1) := by decide +kernel
theorem dX5_shared_7 : decode cX5_shared 7 = .ok (.iconst 0, 1) := by decide +kernel
theorem dX5_shared_8 : decode cX5_shared 8 = .ok (.istore_n 3, 1) := by decide +kernel
theorem dX5_shared_9 : decode cX5_shared 9 = .ok (.aload_n 0, 1) := by decide +kernel
theorem dX5_shared_10 : decode cX5_shared 10 = .ok (.getfield 13, 3) := by decide +kernel
theorem dX5_shared_13 : decode cX5_shared 13 = .ok (.bipush 10, 2) := by decide +kernel
theorem dX5_shared_15 : decode cX5_shared 15 = .ok (.iaload, 1) := by decide +kernel
theorem dX5_shared_16 : decode cX5_shared 16 = .ok (.istore 4, 2) := by decide +kernel
theorem dX5_shared_18 : decode cX5_shared 18 = .ok (.iload_n 1, 1) := by decide +kernel
theorem dX5_shared_19 : decode cX5_shared 19 = .ok (.iload 4, 2) := by decide +kernel
theorem dX5_shared_21 : decode cX5_shared 21 = .ok (.if_icmp .lt 23, 3) := by decide +kernel
theorem dX5_shared_24 : decode cX5_shared 24 = .ok (.iinc 3 1, 3) := by decide +kernel
theorem dX5_shared_27 : decode cX5_shared 27 = .ok (.iload 4, 2) := by decide +kernel
theorem dX5_shared_29 : decode cX5_shared 29 = .ok (.aload_n 0, 1) := by decide +kernel
theorem dX5_shared_30 : decode cX5_shared 30 = .ok (.getfield 13, 3) := by decide +kernel
theorem dX5_shared_33 : decode cX5_shared 33 = .ok (.bipush 10, 2) := by decide +kernel
theorem dX5_shared_35 : decode cX5_shared 35 = .ok (.iload_n 3, 1) := by decide +kernel
theorem dX5_shared_36 : decode cX5_shared 36 = .ok (.iadd, 1) := by decide +kernel
theorem dX5_shared_37 : decode cX5_shared 37 = .ok (.iaload, 1) := by decide +kernel
theorem dX5_shared_38 : decode cX5_shared 38 = .ok (.iadd, 1) := by decide +kernel
theorem dX5_shared_39 : decode cX5_shared 39 = .ok (.istore 4, 2) := by decide +kernel
theorem dX5_shared_41 : decode cX5_shared 41 = .ok (.goto (-23), 3) := by decide +kernel
theorem dX5_shared_44 : decode cX5_shared 44 = .ok (.aload_n 0, 1) := by decide +kernel
theorem dX5_shared_45 : decode cX5_shared 45 = .ok (.iload_n 1, 1) := by decide +kernel
theorem dX5_shared_46 : decode cX5_shared 46 = .ok (.iconst 1, 1) := by decide +kernel
theorem dX5_shared_47 : decode cX5_shared 47 = .ok (.iadd, 1) := by decide +kernel
theorem dX5_shared_48 : decode cX5_shared 48 = .ok (.iload_n 2, 1) := by decide +kernel
theorem dX5_shared_49 : decode cX5_shared 49 = .ok (.invokevirtual 191, 3) := by decide +kernel
theorem dX5_shared_52 : decode cX5_shared 52 = .ok (.istore 5, 2) := by decide +kernel
theorem dX5_shared_54 : decode cX5_shared 54 = .ok (.iconst 0, 1) := by decide +kernel
theorem dX5_shared_55 : decode cX5_shared 55 = .ok (.istore 6, 2) := by decide +kernel
theorem dX5_shared_57 : decode cX5_shared 57 = .ok (.iload 6, 2) := by decide +kernel
theorem dX5_shared_59 : decode cX5_shared 59 = .ok (.aload_n 0, 1) := by decide +kernel
theorem dX5_shared_60 : decode cX5_shared 60 = .ok (.getfield 13, 3) := by decide +kernel
theorem dX5_shared_63 : decode cX5_shared 63 = .ok (.iconst 0, 1) := by decide +kernel
theorem dX5_shared_64 : decode cX5_shared 64 = .ok (.iaload, 1) := by decide +kernel
theorem dX5_shared_65 : decode cX5_shared 65 = .ok (.if_icmp .ge 77, 3) := by decide +kernel
theorem dX5_shared_68 : decode cX5_shared 68 = .ok (.aload_n 0, 1) := by decide +kernel
theorem dX5_shared_69 : decode cX5_shared 69 = .ok (.getfield 13, 3) := by decide +kernel
theorem dX5_shared_72 : decode cX5_shared 72 = .ok (.iload 6, 2) := by decide +kernel
theorem dX5_shared_74 : decode cX5_shared 74 = .ok (.iload_n 3, 1) := by decide +kernel
theorem dX5_shared_75 : decode cX5_shared 75 = .ok (.invokestatic 74, 3) := by decide +kernel
theorem dX5_shared_78 : decode cX5_shared 78 = .ok (.istore 7, 2) := by decide +kernel
theorem dX5_shared_80 : decode cX5_shared 80 = .ok (.iload 7, 2) := by decide +kernel
theorem dX5_shared_82 : decode cX5_shared 82 = .ok (.ifCond .lt 54, 3) := by decide +kernel
theorem dX5_shared_85 : decode cX5_shared 85 = .ok (.aload_n 0, 1) := by decide +kernel
theorem dX5_shared_86 : decode cX5_shared 86 = .ok (.getfield 50, 3) := by decide +kernel
theorem dX5_shared_89 : decode cX5_shared 89 = .ok (.iload 6, 2) := by decide +kernel
theorem dX5_shared_91 : decode cX5_shared 91 = .ok (.iaload, 1) := by decide +kernel
theorem dX5_shared_92 : decode cX5_shared 92 = .ok (.iconst 2, 1) := by decide +kernel
theorem dX5_shared_93 : decode cX5_shared 93 = .ok (.if_icmp .ge 43, 3) := by decide +kernel
theorem dX5_shared_96 : decode cX5_shared 96 = .ok (.aload_n 0, 1) := by decide +kernel
theorem dX5_shared_97 : decode cX5_shared 97 = .ok (.getfield 50, 3) := by decide +kernel
theorem dX5_shared_100 : decode cX5_shared 100 = .ok (.iload 6, 2) := by decide +kernel
theorem dX5_shared_102 : decode cX5_shared 102 = .ok (.dup2, 1) := by decide +kernel
theorem dX5_shared_103 : decode cX5_shared 103 = .ok (.iaload, 1) := by decide +kernel
theorem dX5_shared_104 : decode cX5_shared 104 = .ok (.iconst 1, 1) := by decide +kernel
theorem dX5_shared_105 : decode cX5_shared 105 = .ok (.iadd, 1) := by decide +kernel
theorem dX5_shared_106 : decode cX5_shared 106 = .ok (.iastore, 1) := by decide +kernel
theorem dX5_shared_107 : decode cX5_shared 107 = .ok (.iload 5, 2) := by decide +kernel
theorem dX5_shared_109 : decode cX5_shared 109 = .ok (.iload 7, 2) := by decide +kernel
theorem dX5_shared_111 : decode cX5_shared 111 = .ok (.aload_n 0, 1) := by decide +kernel
theorem dX5_shared_112 : decode cX5_shared 112 = .ok (.iload_n 1, 1) := by decide +kernel
theorem dX5_shared_113 : decode cX5_shared 113 = .ok (.iconst 1, 1) := by decide +kernel
theorem dX5_shared_114 : decode cX5_shared 114 = .ok (.iadd, 1) := by decide +kernel
theorem dX5_shared_115 : decode cX5_shared 115 = .ok (.iload_n 2, 1) := by decide +kernel
theorem dX5_shared_116 : decode cX5_shared 116 = .ok (.invokevirtual 191, 3) := by decide +kernel
theorem dX5_shared_119 : decode cX5_shared 119 = .ok (.iadd, 1) := by decide +kernel
theorem dX5_shared_120 : decode cX5_shared 120 = .ok (.invokestatic 68, 3) := by decide +kernel
theorem dX5_shared_123 : decode cX5_shared 123 = .ok (.istore 5, 2) := by decide +kernel
theorem dX5_shared_125 : decode cX5_shared 125 = .ok (.aload_n 0, 1) := by decide +kernel
theorem dX5_shared_126 : decode cX5_shared 126 = .ok (.getfield 50, 3) := by decide +kernel
theorem dX5_shared_129 : decode cX5_shared 129 = .ok (.iload 6, 2) := by decide +kernel
theorem dX5_shared_131 : decode cX5_shared 131 = .ok (.dup2, 1) := by decide +kernel
theorem dX5_shared_132 : decode cX5_shared 132 = .ok (.iaload, 1) := by decide +kernel
theorem dX5_shared_133 : decode cX5_shared 133 = .ok (.iconst 1, 1) := by decide +kernel
theorem dX5_shared_134 : decode cX5_shared 134 = .ok (.isub, 1) := by decide +kernel
theorem dX5_shared_135 : decode cX5_shared 135 = .ok (.iastore, 1) := by decide +kernel
theorem dX5_shared_136 : decode cX5_shared 136 = .ok (.iinc 6 1, 3) := by decide +kernel
theorem dX5_shared_139 : decode cX5_shared 139 = .ok (.goto (-82), 3) := by decide +kernel
theorem dX5_shared_142 : decode cX5_shared 142 = .ok (.iload 5, 2) := by decide +kernel
theorem dX5_shared_144 : decode cX5_shared 144 = .ok (.ireturn, 1) := by decide +kernel
theorem dX5_share_0 : decode cX5_share 0 = .ok (.aload_n 0, 1) := by decide +kernel
theorem dX5_share_1 : decode cX5_share 1 = .ok (.iconst 0, 1) := by decide +kernel
theorem dX5_share_2 : decode cX5_share 2 = .ok (.bipush 6, 2) := by decide +kernel
theorem dX5_share_4 : decode cX5_share 4 = .ok (.aload_n 0, 1) := by decide +kernel
theorem dX5_share_5 : decode cX5_share 5 = .ok (.getfield 13, 3) := by decide +kernel
theorem dX5_share_8 : decode cX5_share 8 = .ok (.invokestatic 167, 3) := by decide +kernel
theorem dX5_share_11 : decode cX5_share 11 = .ok (.invokestatic 78, 3) := by decide +kernel
theorem dX5_share_14 : decode cX5_share 14 = .ok (.invokevirtual 191, 3) := by decide +kernel
theorem dX5_share_17 : decode cX5_share 17 = .ok (.ireturn, 1) := by decide +kernel
theorem dX5_opened_0 : decode cX5_opened 0 = .ok (.iconst 3, 1) := by decide +kernel
theorem dX5_opened_1 : decode cX5_opened 1 = .ok (.iload_n 1, 1) := by decide +kernel
theorem dX5_opened_2 : decode cX5_opened 2 = .ok (.imul, 1) := by decide +kernel
theorem dX5_opened_3 : decode cX5_opened 3 = .ok (.aload_n 0, 1) := by decide +kernel
theorem dX5_opened_4 : decode cX5_opened 4 = .ok (.getfield 194, 3) := by decide +kernel
theorem dX5_opened_7 : decode cX5_opened 7 = .ok (.if_icmp .ne 5, 3) := by decide +kernel
theorem dX5_opened_10 : decode cX5_opened 10 = .ok (.iconst 0, 1) := by decide +kernel
theorem dX5_opened_11 : decode cX5_opened 11 = .ok (.ireturn, 1) := by decide +kernel
theorem dX5_opened_12 : decode cX5_opened 12 = .ok (.aload_n 0, 1) := by decide +kernel
theorem dX5_opened_13 : decode cX5_opened 13 = .ok (.iload_n 1, 1) := by decide +kernel
theorem dX5_opened_14 : decode cX5_opened 14 = .ok (.iconst 1, 1) := by decide +kernel
theorem dX5_opened_15 : decode cX5_opened 15 = .ok (.iadd, 1) := by decide +kernel
theorem dX5_opened_16 : decode cX5_opened 16 = .ok (.iload_n 2, 1) := by decide +kernel
theorem dX5_opened_17 : decode cX5_opened 17 = .ok (.iload_n 3, 1) := by decide +kernel
theorem dX5_opened_18 : decode cX5_opened 18 = .ok (.invokevirtual 197, 3) := by decide +kernel
theorem dX5_opened_21 : decode cX5_opened 21 = .ok (.istore 4, 2) := by decide +kernel
theorem dX5_opened_23 : decode cX5_opened 23 = .ok (.aload_n 0, 1) := by decide +kernel
theorem dX5_opened_24 : decode cX5_opened 24 = .ok (.getfield 53, 3) := by decide +kernel
theorem dX5_opened_27 : decode cX5_opened 27 = .ok (.iconst 3, 1) := by decide +kernel
theorem dX5_opened_28 : decode cX5_opened 28 = .ok (.iload_n 1, 1) := by decide +kernel
theorem dX5_opened_29 : decode cX5_opened 29 = .ok (.imul, 1) := by decide +kernel
theorem dX5_opened_30 : decode cX5_opened 30 = .ok (.iaload, 1) := by decide +kernel
theorem dX5_opened_31 : decode cX5_opened 31 = .ok (.istore 5, 2) := by decide +kernel
theorem dX5_opened_33 : decode cX5_opened 33 = .ok (.iload 5, 2) := by decide +kernel
theorem dX5_opened_35 : decode cX5_opened 35 = .ok (.aload_n 0, 1) := by decide +kernel
theorem dX5_opened_36 : decode cX5_opened 36 = .ok (.getfield 53, 3) := by decide +kernel
theorem dX5_opened_39 : decode cX5_opened 39 = .ok (.iconst 3, 1) := by decide +kernel
theorem dX5_opened_40 : decode cX5_opened 40 = .ok (.iload_n 1, 1) := by decide +kernel
theorem dX5_opened_41 : decode cX5_opened 41 = .ok (.imul, 1) := by decide +kernel
theorem dX5_opened_42 : decode cX5_opened 42 = .ok (.iconst 1, 1) := by decide +kernel
theorem dX5_opened_43 : decode cX5_opened 43 = .ok (.iadd, 1) := by decide +kernel
theorem dX5_opened_44 : decode cX5_opened 44 = .ok (.iaload, 1) := by decide +kernel
theorem dX5_opened_45 : decode cX5_opened 45 = .ok (.if_icmp .gt 56, 3) := by decide +kernel
theorem dX5_opened_48 : decode cX5_opened 48 = .ok (.iload 5, 2) := by decide +kernel
theorem dX5_opened_50 : decode cX5_opened 50 = .ok (.iload_n 2, 1) := by decide +kernel
theorem dX5_opened_51 : decode cX5_opened 51 = .ok (.if_icmp .ge 50, 3) := by decide +kernel
theorem dX5_opened_54 : decode cX5_opened 54 = .ok (.iload_n 3, 1) := by decide +kernel
theorem dX5_opened_55 : decode cX5_opened 55 = .ok (.iload 5, 2) := by decide +kernel
theorem dX5_opened_57 : decode cX5_opened 57 = .ok (.ishr, 1) := by decide +kernel
theorem dX5_opened_58 : decode cX5_opened 58 = .ok (.iconst 1, 1) := by decide +kernel
theorem dX5_opened_59 : decode cX5_opened 59 = .ok (.iand, 1) := by decide +kernel
theorem dX5_opened_60 : decode cX5_opened 60 = .ok (.ifCond .ne 35, 3) := by decide +kernel
theorem dX5_opened_63 : decode cX5_opened 63 = .ok (.iload 4, 2) := by decide +kernel
theorem dX5_opened_65 : decode cX5_opened 65 = .ok (.aload_n 0, 1) := by decide +kernel
theorem dX5_opened_66 : decode cX5_opened 66 = .ok (.getfield 53, 3) := by decide +kernel
theorem dX5_opened_69 : decode cX5_opened 69 = .ok (.iconst 3, 1) := by decide +kernel
theorem dX5_opened_70 : decode cX5_opened 70 = .ok (.iload_n 1, 1) := by decide +kernel
theorem dX5_opened_71 : decode cX5_opened 71 = .ok (.imul, 1) := by decide +kernel
theorem dX5_opened_72 : decode cX5_opened 72 = .ok (.iconst 2, 1) := by decide +kernel
theorem dX5_opened_73 : decode cX5_opened 73 = .ok (.iadd, 1) := by decide +kernel
theorem dX5_opened_74 : decode cX5_opened 74 = .ok (.iaload, 1) := by decide +kernel
theorem dX5_opened_75 : decode cX5_opened 75 = .ok (.aload_n 0, 1) := by decide +kernel
theorem dX5_opened_76 : decode cX5_opened 76 = .ok (.iload_n 1, 1) := by decide +kernel
theorem dX5_opened_77 : decode cX5_opened 77 = .ok (.iconst 1, 1) := by decide +kernel
theorem dX5_opened_78 : decode cX5_opened 78 = .ok (.iadd, 1) := by decide +kernel
theorem dX5_opened_79 : decode cX5_opened 79 = .ok (.iload_n 2, 1) := by decide +kernel
theorem dX5_opened_80 : decode cX5_opened 80 = .ok (.iload_n 3, 1) := by decide +kernel
theorem dX5_opened_81 : decode cX5_opened 81 = .ok (.iconst 1, 1) := by decide +kernel
theorem dX5_opened_82 : decode cX5_opened 82 = .ok (.iload 5, 2) := by decide +kernel
theorem dX5_opened_84 : decode cX5_opened 84 = .ok (.ishl, 1) := by decide +kernel
theorem dX5_opened_85 : decode cX5_opened 85 = .ok (.ior, 1) := by decide +kernel
theorem dX5_opened_86 : decode cX5_opened 86 = .ok (.invokevirtual 197, 3) := by decide +kernel
theorem dX5_opened_89 : decode cX5_opened 89 = .ok (.iadd, 1) := by decide +kernel
theorem dX5_opened_90 : decode cX5_opened 90 = .ok (.invokestatic 68, 3) := by decide +kernel
theorem dX5_opened_93 : decode cX5_opened 93 = .ok (.istore 4, 2) := by decide +kernel
theorem dX5_opened_95 : decode cX5_opened 95 = .ok (.iinc 5 1, 3) := by decide +kernel
theorem dX5_opened_98 : decode cX5_opened 98 = .ok (.goto (-65), 3) := by decide +kernel
theorem dX5_opened_101 : decode cX5_opened 101 = .ok (.iload 4, 2) := by decide +kernel
theorem dX5_opened_103 : decode cX5_opened 103 = .ok (.ireturn, 1) := by decide +kernel
theorem dX5_bottles_0 : decode cX5_bottles 0 = .ok (.iload_n 1, 1) := by decide +kernel
theorem dX5_bottles_1 : decode cX5_bottles 1 = .ok (.iconst 1, 1) := by decide +kernel
theorem dX5_bottles_2 : decode cX5_bottles 2 = .ok (.if_icmp .ge 10, 3) := by decide +kernel
theorem dX5_bottles_5 : decode cX5_bottles 5 = .ok (.aload_n 0, 1) := by decide +kernel
theorem dX5_bottles_6 : decode cX5_bottles 6 = .ok (.bipush (-4), 2) := by decide +kernel
theorem dX5_bottles_8 : decode cX5_bottles 8 = .ok (.invokevirtual 64, 3) := by decide +kernel
theorem dX5_bottles_11 : decode cX5_bottles 11 = .ok (.ireturn, 1) := by decide +kernel
theorem dX5_bottles_12 : decode cX5_bottles 12 = .ok (.iload_n 1, 1) := by decide +kernel
theorem dX5_bottles_13 : decode cX5_bottles 13 = .ok (.bipush 6, 2) := by decide +kernel
theorem dX5_bottles_15 : decode cX5_bottles 15 = .ok (.if_icmp .le 10, 3) := by decide +kernel
theorem dX5_bottles_18 : decode cX5_bottles 18 = .ok (.aload_n 0, 1) := by decide +kernel
theorem dX5_bottles_19 : decode cX5_bottles 19 = .ok (.bipush (-6), 2) := by decide +kernel
theorem dX5_bottles_21 : decode cX5_bottles 21 = .ok (.invokevirtual 64, 3) := by decide +kernel
theorem dX5_bottles_24 : decode cX5_bottles 24 = .ok (.ireturn, 1) := by decide +kernel
theorem dX5_bottles_25 : decode cX5_bottles 25 = .ok (.aload_n 0, 1) := by decide +kernel
theorem dX5_bottles_26 : decode cX5_bottles 26 = .ok (.getfield 194, 3) := by decide +kernel
theorem dX5_bottles_29 : decode cX5_bottles 29 = .ok (.iconst 3, 1) := by decide +kernel
theorem dX5_bottles_30 : decode cX5_bottles 30 = .ok (.irem, 1) := by decide +kernel
theorem dX5_bottles_31 : decode cX5_bottles 31 = .ok (.ifCond .ne 22, 3) := by decide +kernel
theorem dX5_bottles_34 : decode cX5_bottles 34 = .ok (.aload_n 0, 1) := by decide +kernel
theorem dX5_bottles_35 : decode cX5_bottles 35 = .ok (.getfield 194, 3) := by decide +kernel
theorem dX5_bottles_38 : decode cX5_bottles 38 = .ok (.bipush 18, 2) := by decide +kernel
theorem dX5_bottles_40 : decode cX5_bottles 40 = .ok (.if_icmp .gt 13, 3) := by decide +kernel
theorem dX5_bottles_43 : decode cX5_bottles 43 = .ok (.aload_n 0, 1) := by decide +kernel
theorem dX5_bottles_44 : decode cX5_bottles 44 = .ok (.iconst 0, 1) := by decide +kernel
theorem dX5_bottles_45 : decode cX5_bottles 45 = .ok (.iload_n 1, 1) := by decide +kernel
theorem dX5_bottles_46 : decode cX5_bottles 46 = .ok (.iconst 0, 1) := by decide +kernel
theorem dX5_bottles_47 : decode cX5_bottles 47 = .ok (.invokevirtual 197, 3) := by decide +kernel
theorem dX5_bottles_50 : decode cX5_bottles 50 = .ok (.goto 9, 3) := by decide +kernel
theorem dX5_bottles_53 : decode cX5_bottles 53 = .ok (.aload_n 0, 1) := by decide +kernel
theorem dX5_bottles_54 : decode cX5_bottles 54 = .ok (.bipush (-3), 2) := by decide +kernel
theorem dX5_bottles_56 : decode cX5_bottles 56 = .ok (.invokevirtual 64, 3) := by decide +kernel
theorem dX5_bottles_59 : decode cX5_bottles 59 = .ok (.ireturn, 1) := by decide +kernel
theorem dX5_row_0 : decode cX5_row 0 = .ok (.iload_n 1, 1) := by decide +kernel
theorem dX5_row_1 : decode cX5_row 1 = .ok (.ifCond .ge 10, 3) := by decide +kernel
theorem dX5_row_4 : decode cX5_row 4 = .ok (.aload_n 0, 1) := by decide +kernel
theorem dX5_row_5 : decode cX5_row 5 = .ok (.bipush (-4), 2) := by decide +kernel
theorem dX5_row_7 : decode cX5_row 7 = .ok (.invokevirtual 64, 3) := by decide +kernel
theorem dX5_row_10 : decode cX5_row 10 = .ok (.ireturn, 1) := by decide +kernel
theorem dX5_row_11 : decode cX5_row 11 = .ok (.iload_n 1, 1) := by decide +kernel
theorem dX5_row_12 : decode cX5_row 12 = .ok (.bipush 99, 2) := by decide +kernel
theorem dX5_row_14 : decode cX5_row 14 = .ok (.if_icmp .gt 12, 3) := by decide +kernel
theorem dX5_row_17 : decode cX5_row 17 = .ok (.aload_n 0, 1) := by decide +kernel
theorem dX5_row_18 : decode cX5_row 18 = .ok (.getfield 194, 3) := by decide +kernel
theorem dX5_row_21 : decode cX5_row 21 = .ok (.bipush 20, 2) := by decide +kernel
theorem dX5_row_23 : decode cX5_row 23 = .ok (.if_icmp .ne 10, 3) := by decide +kernel
theorem dX5_row_26 : decode cX5_row 26 = .ok (.aload_n 0, 1) := by decide +kernel
theorem dX5_row_27 : decode cX5_row 27 = .ok (.bipush (-6), 2) := by decide +kernel
theorem dX5_row_29 : decode cX5_row 29 = .ok (.invokevirtual 64, 3) := by decide +kernel
theorem dX5_row_32 : decode cX5_row 32 = .ok (.ireturn, 1) := by decide +kernel
theorem dX5_row_33 : decode cX5_row 33 = .ok (.aload_n 0, 1) := by decide +kernel
theorem dX5_row_34 : decode cX5_row 34 = .ok (.getfield 53, 3) := by decide +kernel
theorem dX5_row_37 : decode cX5_row 37 = .ok (.aload_n 0, 1) := by decide +kernel
theorem dX5_row_38 : decode cX5_row 38 = .ok (.getfield 194, 3) := by decide +kernel
theorem dX5_row_41 : decode cX5_row 41 = .ok (.iload_n 1, 1) := by decide +kernel
theorem dX5_row_42 : decode cX5_row 42 = .ok (.iastore, 1) := by decide +kernel
theorem dX5_row_43 : decode cX5_row 43 = .ok (.aload_n 0, 1) := by decide +kernel
theorem dX5_row_44 : decode cX5_row 44 = .ok (.dup, 1) := by decide +kernel
theorem dX5_row_45 : decode cX5_row 45 = .ok (.getfield 194, 3) := by decide +kernel
theorem dX5_row_48 : decode cX5_row 48 = .ok (.iconst 1, 1) := by decide +kernel
theorem dX5_row_49 : decode cX5_row 49 = .ok (.iadd, 1) := by decide +kernel
theorem dX5_row_50 : decode cX5_row 50 = .ok (.putfield 194, 3) := by decide +kernel
theorem dX5_row_53 : decode cX5_row 53 = .ok (.aload_n 0, 1) := by decide +kernel
theorem dX5_row_54 : decode cX5_row 54 = .ok (.getfield 194, 3) := by decide +kernel
theorem dX5_row_57 : decode cX5_row 57 = .ok (.ireturn, 1) := by decide +kernel
theorem dX5_fits_0 : decode cX5_fits 0 = .ok (.iconst 0, 1) := by decide +kernel
theorem dX5_fits_1 : decode cX5_fits 1 = .ok (.istore_n 1, 1) := by decide +kernel
theorem dX5_fits_2 : decode cX5_fits 2 = .ok (.iconst 0, 1) := by decide +kernel
theorem dX5_fits_3 : decode cX5_fits 3 = .ok (.istore_n 2, 1) := by decide +kernel
theorem dX5_fits_4 : decode cX5_fits 4 = .ok (.iload_n 2, 1) := by decide +kernel
theorem dX5_fits_5 : decode cX5_fits 5 = .ok (.bipush 6, 2) := by decide +kernel
theorem dX5_fits_7 : decode cX5_fits 7 = .ok (.if_icmp .ge 103, 3) := by decide +kernel
theorem dX5_fits_10 : decode cX5_fits 10 = .ok (.aload_n 0, 1) := by decide +kernel
theorem dX5_fits_11 : decode cX5_fits 11 = .ok (.getfield 13, 3) := by decide +kernel
theorem dX5_fits_14 : decode cX5_fits 14 = .ok (.aload_n 0, 1) := by decide +kernel
theorem dX5_fits_15 : decode cX5_fits 15 = .ok (.getfield 16, 3) := by decide +kernel
theorem dX5_fits_18 : decode cX5_fits 18 = .ok (.invokestatic 60, 3) := by decide +kernel
theorem dX5_fits_21 : decode cX5_fits 21 = .ok (.aload_n 0, 1) := by decide +kernel
theorem dX5_fits_22 : decode cX5_fits 22 = .ok (.getfield 16, 3) := by decide +kernel
theorem dX5_fits_25 : decode cX5_fits 25 = .ok (.bipush 7, 2) := by decide +kernel
theorem dX5_fits_27 : decode cX5_fits 27 = .ok (.iload_n 2, 1) := by decide +kernel
theorem dX5_fits_28 : decode cX5_fits 28 = .ok (.iastore, 1) := by decide +kernel
theorem dX5_fits_29 : decode cX5_fits 29 = .ok (.aload_n 0, 1) := by decide +kernel
theorem dX5_fits_30 : decode cX5_fits 30 = .ok (.aload_n 0, 1) := by decide +kernel
theorem dX5_fits_31 : decode cX5_fits 31 = .ok (.getfield 16, 3) := by decide +kernel
theorem dX5_fits_34 : decode cX5_fits 34 = .ok (.invokevirtual 107, 3) := by decide +kernel
theorem dX5_fits_37 : decode cX5_fits 37 = .ok (.iconst 1, 1) := by decide +kernel
theorem dX5_fits_38 : decode cX5_fits 38 = .ok (.istore_n 3, 1) := by decide +kernel
theorem dX5_fits_39 : decode cX5_fits 39 = .ok (.iconst 0, 1) := by decide +kernel
theorem dX5_fits_40 : decode cX5_fits 40 = .ok (.istore 4, 2) := by decide +kernel
theorem dX5_fits_42 : decode cX5_fits 42 = .ok (.iload 4, 2) := by decide +kernel
theorem dX5_fits_44 : decode cX5_fits 44 = .ok (.aload_n 0, 1) := by decide +kernel
theorem dX5_fits_45 : decode cX5_fits 45 = .ok (.getfield 194, 3) := by decide +kernel
theorem dX5_fits_48 : decode cX5_fits 48 = .ok (.if_icmp .ge 42, 3) := by decide +kernel
theorem dX5_fits_51 : decode cX5_fits 51 = .ok (.aload_n 0, 1) := by decide +kernel
theorem dX5_fits_52 : decode cX5_fits 52 = .ok (.aload_n 0, 1) := by decide +kernel
theorem dX5_fits_53 : decode cX5_fits 53 = .ok (.getfield 16, 3) := by decide +kernel
theorem dX5_fits_56 : decode cX5_fits 56 = .ok (.iconst 0, 1) := by decide +kernel
theorem dX5_fits_57 : decode cX5_fits 57 = .ok (.invokevirtual 111, 3) := by decide +kernel
theorem dX5_fits_60 : decode cX5_fits 60 = .ok (.iload_n 3, 1) := by decide +kernel
theorem dX5_fits_61 : decode cX5_fits 61 = .ok (.ifCond .eq 21, 3) := by decide +kernel
theorem dX5_fits_64 : decode cX5_fits 64 = .ok (.aload_n 0, 1) := by decide +kernel
theorem dX5_fits_65 : decode cX5_fits 65 = .ok (.getfield 104, 3) := by decide +kernel
theorem dX5_fits_68 : decode cX5_fits 68 = .ok (.aload_n 0, 1) := by decide +kernel
theorem dX5_fits_69 : decode cX5_fits 69 = .ok (.getfield 53, 3) := by decide +kernel
theorem dX5_fits_72 : decode cX5_fits 72 = .ok (.iload 4, 2) := by decide +kernel
theorem dX5_fits_74 : decode cX5_fits 74 = .ok (.iaload, 1) := by decide +kernel
theorem dX5_fits_75 : decode cX5_fits 75 = .ok (.if_icmp .ne 7, 3) := by decide +kernel
theorem dX5_fits_78 : decode cX5_fits 78 = .ok (.iconst 1, 1) := by decide +kernel
theorem dX5_fits_79 : decode cX5_fits 79 = .ok (.goto 4, 3) := by decide +kernel
theorem dX5_fits_82 : decode cX5_fits 82 = .ok (.iconst 0, 1) := by decide +kernel
theorem dX5_fits_83 : decode cX5_fits 83 = .ok (.istore_n 3, 1) := by decide +kernel
theorem dX5_fits_84 : decode cX5_fits 84 = .ok (.iinc 4 1, 3) := by decide +kernel
theorem dX5_fits_87 : decode cX5_fits 87 = .ok (.goto (-45), 3) := by decide +kernel
theorem dX5_fits_90 : decode cX5_fits 90 = .ok (.iload_n 1, 1) := by decide +kernel
theorem dX5_fits_91 : decode cX5_fits 91 = .ok (.iload_n 3, 1) := by decide +kernel
theorem dX5_fits_92 : decode cX5_fits 92 = .ok (.ifCond .eq 9, 3) := by decide +kernel
theorem dX5_fits_95 : decode cX5_fits 95 = .ok (.iconst 1, 1) := by decide +kernel
theorem dX5_fits_96 : decode cX5_fits 96 = .ok (.iload_n 2, 1) := by decide +kernel
theorem dX5_fits_97 : decode cX5_fits 97 = .ok (.ishl, 1) := by decide +kernel
theorem dX5_fits_98 : decode cX5_fits 98 = .ok (.goto 4, 3) := by decide +kernel
theorem dX5_fits_101 : decode cX5_fits 101 = .ok (.iconst 0, 1) := by decide +kernel
theorem dX5_fits_102 : decode cX5_fits 102 = .ok (.ior, 1) := by decide +kernel
theorem dX5_fits_103 : decode cX5_fits 103 = .ok (.istore_n 1, 1) := by decide +kernel
theorem dX5_fits_104 : decode cX5_fits 104 = .ok (.iinc 2 1, 3) := by decide +kernel
theorem dX5_fits_107 : decode cX5_fits 107 = .ok (.goto (-103), 3) := by decide +kernel
theorem dX5_fits_110 : decode cX5_fits 110 = .ok (.iload_n 1, 1) := by decide +kernel
theorem dX5_fits_111 : decode cX5_fits 111 = .ok (.ireturn, 1) := by decide +kernel
theorem dX5_judge_0 : decode cX5_judge 0 = .ok (.aload_n 0, 1) := by decide +kernel
theorem dX5_judge_1 : decode cX5_judge 1 = .ok (.getfield 13, 3) := by decide +kernel
theorem dX5_judge_4 : decode cX5_judge 4 = .ok (.aload_n 0, 1) := by decide +kernel
theorem dX5_judge_5 : decode cX5_judge 5 = .ok (.getfield 16, 3) := by decide +kernel
theorem dX5_judge_8 : decode cX5_judge 8 = .ok (.invokestatic 60, 3) := by decide +kernel
theorem dX5_judge_11 : decode cX5_judge 11 = .ok (.aload_n 0, 1) := by decide +kernel
theorem dX5_judge_12 : decode cX5_judge 12 = .ok (.aload_n 0, 1) := by decide +kernel
theorem dX5_judge_13 : decode cX5_judge 13 = .ok (.getfield 16, 3) := by decide +kernel
theorem dX5_judge_16 : decode cX5_judge 16 = .ok (.invokevirtual 107, 3) := by decide +kernel
theorem dX5_judge_19 : decode cX5_judge 19 = .ok (.aload_n 0, 1) := by decide +kernel
theorem dX5_judge_20 : decode cX5_judge 20 = .ok (.aload_n 0, 1) := by decide +kernel
theorem dX5_judge_21 : decode cX5_judge 21 = .ok (.getfield 16, 3) := by decide +kernel
theorem dX5_judge_24 : decode cX5_judge 24 = .ok (.iconst 0, 1) := by decide +kernel
theorem dX5_judge_25 : decode cX5_judge 25 = .ok (.invokevirtual 111, 3) := by decide +kernel
theorem dX5_judge_28 : decode cX5_judge 28 = .ok (.bipush (-9), 2) := by decide +kernel
theorem dX5_judge_30 : decode cX5_judge 30 = .ok (.istore_n 1, 1) := by decide +kernel
theorem dX5_judge_31 : decode cX5_judge 31 = .ok (.aload_n 0, 1) := by decide +kernel
theorem dX5_judge_32 : decode cX5_judge 32 = .ok (.getfield 194, 3) := by decide +kernel
theorem dX5_judge_35 : decode cX5_judge 35 = .ok (.iconst 1, 1) := by decide +kernel
theorem dX5_judge_36 : decode cX5_judge 36 = .ok (.isub, 1) := by decide +kernel
theorem dX5_judge_37 : decode cX5_judge 37 = .ok (.istore_n 2, 1) := by decide +kernel
theorem dX5_judge_38 : decode cX5_judge 38 = .ok (.iload_n 2, 1) := by decide +kernel
theorem dX5_judge_39 : decode cX5_judge 39 = .ok (.ifCond .lt 38, 3) := by decide +kernel
theorem dX5_judge_42 : decode cX5_judge 42 = .ok (.iload_n 2, 1) := by decide +kernel
theorem dX5_judge_43 : decode cX5_judge 43 = .ok (.aload_n 0, 1) := by decide +kernel
theorem dX5_judge_44 : decode cX5_judge 44 = .ok (.getfield 94, 3) := by decide +kernel
theorem dX5_judge_47 : decode cX5_judge 47 = .ok (.if_icmp .ge 18, 3) := by decide +kernel
theorem dX5_judge_50 : decode cX5_judge 50 = .ok (.aload_n 0, 1) := by decide +kernel
theorem dX5_judge_51 : decode cX5_judge 51 = .ok (.getfield 25, 3) := by decide +kernel
theorem dX5_judge_54 : decode cX5_judge 54 = .ok (.iload_n 2, 1) := by decide +kernel
theorem dX5_judge_55 : decode cX5_judge 55 = .ok (.iaload, 1) := by decide +kernel
theorem dX5_judge_56 : decode cX5_judge 56 = .ok (.aload_n 0, 1) := by decide +kernel
theorem dX5_judge_57 : decode cX5_judge 57 = .ok (.getfield 53, 3) := by decide +kernel
theorem dX5_judge_60 : decode cX5_judge 60 = .ok (.iload_n 2, 1) := by decide +kernel
theorem dX5_judge_61 : decode cX5_judge 61 = .ok (.iaload, 1) := by decide +kernel
theorem dX5_judge_62 : decode cX5_judge 62 = .ok (.if_icmp .eq 7, 3) := by decide +kernel
theorem dX5_judge_65 : decode cX5_judge 65 = .ok (.iload_n 2, 1) := by decide +kernel
theorem dX5_judge_66 : decode cX5_judge 66 = .ok (.goto 4, 3) := by decide +kernel
theorem dX5_judge_69 : decode cX5_judge 69 = .ok (.iload_n 1, 1) := by decide +kernel
theorem dX5_judge_70 : decode cX5_judge 70 = .ok (.istore_n 1, 1) := by decide +kernel
theorem dX5_judge_71 : decode cX5_judge 71 = .ok (.iinc 2 (-1), 3) := by decide +kernel
theorem dX5_judge_74 : decode cX5_judge 74 = .ok (.goto (-36), 3) := by decide +kernel
theorem dX5_judge_77 : decode cX5_judge 77 = .ok (.aload_n 0, 1) := by decide +kernel
theorem dX5_judge_78 : decode cX5_judge 78 = .ok (.iconst 0, 1) := by decide +kernel
theorem dX5_judge_79 : decode cX5_judge 79 = .ok (.putfield 194, 3) := by decide +kernel
theorem dX5_judge_82 : decode cX5_judge 82 = .ok (.iload_n 1, 1) := by decide +kernel
theorem dX5_judge_83 : decode cX5_judge 83 = .ok (.ireturn, 1) := by decide +kernel
theorem dX5_lots_0 : decode cX5_lots 0 = .ok (.iload_n 1, 1) := by decide +kernel
theorem dX5_lots_1 : decode cX5_lots 1 = .ok (.iconst 1, 1) := by decide +kernel
theorem dX5_lots_2 : decode cX5_lots 2 = .ok (.if_icmp .ge 10, 3) := by decide +kernel
theorem dX5_lots_5 : decode cX5_lots 5 = .ok (.aload_n 0, 1) := by decide +kernel
theorem dX5_lots_6 : decode cX5_lots 6 = .ok (.bipush (-4), 2) := by decide +kernel
theorem dX5_lots_8 : decode cX5_lots 8 = .ok (.invokevirtual 64, 3) := by decide +kernel
theorem dX5_lots_11 : decode cX5_lots 11 = .ok (.ireturn, 1) := by decide +kernel
theorem dX5_lots_12 : decode cX5_lots 12 = .ok (.iload_n 1, 1) := by decide +kernel
theorem dX5_lots_13 : decode cX5_lots 13 = .ok (.bipush 20, 2) := by decide +kernel
theorem dX5_lots_15 : decode cX5_lots 15 = .ok (.if_icmp .le 10, 3) := by decide +kernel
theorem dX5_lots_18 : decode cX5_lots 18 = .ok (.aload_n 0, 1) := by decide +kernel
theorem dX5_lots_19 : decode cX5_lots 19 = .ok (.bipush (-6), 2) := by decide +kernel
theorem dX5_lots_21 : decode cX5_lots 21 = .ok (.invokevirtual 64, 3) := by decide +kernel
theorem dX5_lots_24 : decode cX5_lots 24 = .ok (.ireturn, 1) := by decide +kernel
theorem dX5_lots_25 : decode cX5_lots 25 = .ok (.iload_n 2, 1) := by decide +kernel
theorem dX5_lots_26 : decode cX5_lots 26 = .ok (.istore_n 3, 1) := by decide +kernel
theorem dX5_lots_27 : decode cX5_lots 27 = .ok (.iconst 0, 1) := by decide +kernel
theorem dX5_lots_28 : decode cX5_lots 28 = .ok (.istore 4, 2) := by decide +kernel
theorem dX5_lots_30 : decode cX5_lots 30 = .ok (.iconst 0, 1) := by decide +kernel
theorem dX5_lots_31 : decode cX5_lots 31 = .ok (.istore 5, 2) := by decide +kernel
theorem dX5_lots_33 : decode cX5_lots 33 = .ok (.iload 5, 2) := by decide +kernel
theorem dX5_lots_35 : decode cX5_lots 35 = .ok (.iload_n 1, 1) := by decide +kernel
theorem dX5_lots_36 : decode cX5_lots 36 = .ok (.if_icmp .ge 114, 3) := by decide +kernel
theorem dX5_lots_39 : decode cX5_lots 39 = .ok (.aload_n 0, 1) := by decide +kernel
theorem dX5_lots_40 : decode cX5_lots 40 = .ok (.getfield 13, 3) := by decide +kernel
theorem dX5_lots_43 : decode cX5_lots 43 = .ok (.aload_n 0, 1) := by decide +kernel
theorem dX5_lots_44 : decode cX5_lots 44 = .ok (.getfield 16, 3) := by decide +kernel
theorem dX5_lots_47 : decode cX5_lots 47 = .ok (.invokestatic 60, 3) := by decide +kernel
theorem dX5_lots_50 : decode cX5_lots 50 = .ok (.iconst 0, 1) := by decide +kernel
theorem dX5_lots_51 : decode cX5_lots 51 = .ok (.istore 6, 2) := by decide +kernel
theorem dX5_lots_53 : decode cX5_lots 53 = .ok (.iload 6, 2) := by decide +kernel
theorem dX5_lots_55 : decode cX5_lots 55 = .ok (.bipush 28, 2) := by decide +kernel
theorem dX5_lots_57 : decode cX5_lots 57 = .ok (.if_icmp .ge 87, 3) := by decide +kernel
theorem dX5_lots_60 : decode cX5_lots 60 = .ok (.iconst 0, 1) := by decide +kernel
theorem dX5_lots_61 : decode cX5_lots 61 = .ok (.istore 7, 2) := by decide +kernel
theorem dX5_lots_63 : decode cX5_lots 63 = .ok (.iload 7, 2) := by decide +kernel
theorem dX5_lots_65 : decode cX5_lots 65 = .ok (.aload_n 0, 1) := by decide +kernel
theorem dX5_lots_66 : decode cX5_lots 66 = .ok (.getfield 16, 3) := by decide +kernel
theorem dX5_lots_69 : decode cX5_lots 69 = .ok (.iconst 0, 1) := by decide +kernel
theorem dX5_lots_70 : decode cX5_lots 70 = .ok (.iaload, 1) := by decide +kernel
theorem dX5_lots_71 : decode cX5_lots 71 = .ok (.if_icmp .ge 49, 3) := by decide +kernel
theorem dX5_lots_74 : decode cX5_lots 74 = .ok (.iload_n 3, 1) := by decide +kernel
theorem dX5_lots_75 : decode cX5_lots 75 = .ok (.ldc 200, 2) := by decide +kernel
theorem dX5_lots_77 : decode cX5_lots 77 = .ok (.imul, 1) := by decide +kernel
theorem dX5_lots_78 : decode cX5_lots 78 = .ok (.ldc 201, 2) := by decide +kernel
theorem dX5_lots_80 : decode cX5_lots 80 = .ok (.iadd, 1) := by decide +kernel
theorem dX5_lots_81 : decode cX5_lots 81 = .ok (.istore_n 3, 1) := by decide +kernel
theorem dX5_lots_82 : decode cX5_lots 82 = .ok (.aload_n 0, 1) := by decide +kernel
theorem dX5_lots_83 : decode cX5_lots 83 = .ok (.getfield 22, 3) := by decide +kernel
theorem dX5_lots_86 : decode cX5_lots 86 = .ok (.iload 7, 2) := by decide +kernel
theorem dX5_lots_88 : decode cX5_lots 88 = .ok (.iload_n 3, 1) := by decide +kernel
theorem dX5_lots_89 : decode cX5_lots 89 = .ok (.ldc 202, 2) := by decide +kernel
theorem dX5_lots_91 : decode cX5_lots 91 = .ok (.iand, 1) := by decide +kernel
theorem dX5_lots_92 : decode cX5_lots 92 = .ok (.sipush 256, 3) := by decide +kernel
theorem dX5_lots_95 : decode cX5_lots 95 = .ok (.idiv, 1) := by decide +kernel
theorem dX5_lots_96 : decode cX5_lots 96 = .ok (.aload_n 0, 1) := by decide +kernel
theorem dX5_lots_97 : decode cX5_lots 97 = .ok (.getfield 16, 3) := by decide +kernel
theorem dX5_lots_100 : decode cX5_lots 100 = .ok (.bipush 30, 2) := by decide +kernel
theorem dX5_lots_102 : decode cX5_lots 102 = .ok (.iconst 4, 1) := by decide +kernel
theorem dX5_lots_103 : decode cX5_lots 103 = .ok (.iload 7, 2) := by decide +kernel
theorem dX5_lots_105 : decode cX5_lots 105 = .ok (.imul, 1) := by decide +kernel
theorem dX5_lots_106 : decode cX5_lots 106 = .ok (.iadd, 1) := by decide +kernel
theorem dX5_lots_107 : decode cX5_lots 107 = .ok (.iconst 1, 1) := by decide +kernel
theorem dX5_lots_108 : decode cX5_lots 108 = .ok (.iadd, 1) := by decide +kernel
theorem dX5_lots_109 : decode cX5_lots 109 = .ok (.iaload, 1) := by decide +kernel
theorem dX5_lots_110 : decode cX5_lots 110 = .ok (.iconst 3, 1) := by decide +kernel
theorem dX5_lots_111 : decode cX5_lots 111 = .ok (.iadd, 1) := by decide +kernel
theorem dX5_lots_112 : decode cX5_lots 112 = .ok (.irem, 1) := by decide +kernel
theorem dX5_lots_113 : decode cX5_lots 113 = .ok (.iastore, 1) := by decide +kernel
theorem dX5_lots_114 : decode cX5_lots 114 = .ok (.iinc 7 1, 3) := by decide +kernel
theorem dX5_lots_117 : decode cX5_lots 117 = .ok (.goto (-54), 3) := by decide +kernel
theorem dX5_lots_120 : decode cX5_lots 120 = .ok (.aload_n 0, 1) := by decide +kernel
theorem dX5_lots_121 : decode cX5_lots 121 = .ok (.aload_n 0, 1) := by decide +kernel
theorem dX5_lots_122 : decode cX5_lots 122 = .ok (.getfield 16, 3) := by decide +kernel
theorem dX5_lots_125 : decode cX5_lots 125 = .ok (.iconst 0, 1) := by decide +kernel
theorem dX5_lots_126 : decode cX5_lots 126 = .ok (.invokevirtual 111, 3) := by decide +kernel
theorem dX5_lots_129 : decode cX5_lots 129 = .ok (.iload 4, 2) := by decide +kernel
theorem dX5_lots_131 : decode cX5_lots 131 = .ok (.aload_n 0, 1) := by decide +kernel
theorem dX5_lots_132 : decode cX5_lots 132 = .ok (.getfield 104, 3) := by decide +kernel
theorem dX5_lots_135 : decode cX5_lots 135 = .ok (.iadd, 1) := by decide +kernel
theorem dX5_lots_136 : decode cX5_lots 136 = .ok (.istore 4, 2) := by decide +kernel
theorem dX5_lots_138 : decode cX5_lots 138 = .ok (.iinc 6 1, 3) := by decide +kernel
theorem dX5_lots_141 : decode cX5_lots 141 = .ok (.goto (-88), 3) := by decide +kernel
theorem dX5_lots_144 : decode cX5_lots 144 = .ok (.iinc 5 1, 3) := by decide +kernel
theorem dX5_lots_147 : decode cX5_lots 147 = .ok (.goto (-114), 3) := by decide +kernel
theorem dX5_lots_150 : decode cX5_lots 150 = .ok (.iload 4, 2) := by decide +kernel
theorem dX5_lots_152 : decode cX5_lots 152 = .ok (.ireturn, 1) := by decide +kernel
theorem dX5_count_0 : decode cX5_count 0 = .ok (.iload_n 1, 1) := by decide +kernel
theorem dX5_count_1 : decode cX5_count 1 = .ok (.tableswitch 141 0 8 #[51, 58, 65, 73, 80, 85, 93, 131, 136], 51) := by decide +kernel
theorem dX5_count_52 : decode cX5_count 52 = .ok (.aload_n 0, 1) := by decide +kernel
theorem dX5_count_53 : decode cX5_count 53 = .ok (.getfield 13, 3) := by decide +kernel
theorem dX5_count_56 : decode cX5_count 56 = .ok (.iconst 0, 1) := by decide +kernel
theorem dX5_count_57 : decode cX5_count 57 = .ok (.iaload, 1) := by decide +kernel
theorem dX5_count_58 : decode cX5_count 58 = .ok (.ireturn, 1) := by decide +kernel
theorem dX5_count_59 : decode cX5_count 59 = .ok (.aload_n 0, 1) := by decide +kernel
theorem dX5_count_60 : decode cX5_count 60 = .ok (.getfield 13, 3) := by decide +kernel
theorem dX5_count_63 : decode cX5_count 63 = .ok (.iconst 1, 1) := by decide +kernel
theorem dX5_count_64 : decode cX5_count 64 = .ok (.iaload, 1) := by decide +kernel
theorem dX5_count_65 : decode cX5_count 65 = .ok (.ireturn, 1) := by decide +kernel
theorem dX5_count_66 : decode cX5_count 66 = .ok (.aload_n 0, 1) := by decide +kernel
theorem dX5_count_67 : decode cX5_count 67 = .ok (.getfield 13, 3) := by decide +kernel
theorem dX5_count_70 : decode cX5_count 70 = .ok (.invokestatic 167, 3) := by decide +kernel
theorem dX5_count_73 : decode cX5_count 73 = .ok (.ireturn, 1) := by decide +kernel
theorem dX5_count_74 : decode cX5_count 74 = .ok (.aload_n 0, 1) := by decide +kernel
theorem dX5_count_75 : decode cX5_count 75 = .ok (.getfield 13, 3) := by decide +kernel
theorem dX5_count_78 : decode cX5_count 78 = .ok (.iconst 2, 1) := by decide +kernel
theorem dX5_count_79 : decode cX5_count 79 = .ok (.iaload, 1) := by decide +kernel
theorem dX5_count_80 : decode cX5_count 80 = .ok (.ireturn, 1) := by decide +kernel
theorem dX5_count_81 : decode cX5_count 81 = .ok (.aload_n 0, 1) := by decide +kernel
theorem dX5_count_82 : decode cX5_count 82 = .ok (.invokevirtual 174, 3) := by decide +kernel
theorem dX5_count_85 : decode cX5_count 85 = .ok (.ireturn, 1) := by decide +kernel
theorem dX5_count_86 : decode cX5_count 86 = .ok (.aload_n 0, 1) := by decide +kernel
theorem dX5_count_87 : decode cX5_count 87 = .ok (.getfield 13, 3) := by decide +kernel
theorem dX5_count_90 : decode cX5_count 90 = .ok (.bipush 7, 2) := by decide +kernel
theorem dX5_count_92 : decode cX5_count 92 = .ok (.iaload, 1) := by decide +kernel
theorem dX5_count_93 : decode cX5_count 93 = .ok (.ireturn, 1) := by decide +kernel
theorem dX5_count_94 : decode cX5_count 94 = .ok (.iconst 0, 1) := by decide +kernel
theorem dX5_count_95 : decode cX5_count 95 = .ok (.istore_n 2, 1) := by decide +kernel
theorem dX5_count_96 : decode cX5_count 96 = .ok (.iconst 0, 1) := by decide +kernel
theorem dX5_count_97 : decode cX5_count 97 = .ok (.istore_n 3, 1) := by decide +kernel
theorem dX5_count_98 : decode cX5_count 98 = .ok (.iload_n 3, 1) := by decide +kernel
theorem dX5_count_99 : decode cX5_count 99 = .ok (.aload_n 0, 1) := by decide +kernel
theorem dX5_count_100 : decode cX5_count 100 = .ok (.getfield 13, 3) := by decide +kernel
theorem dX5_count_103 : decode cX5_count 103 = .ok (.iconst 0, 1) := by decide +kernel
theorem dX5_count_104 : decode cX5_count 104 = .ok (.iaload, 1) := by decide +kernel
theorem dX5_count_105 : decode cX5_count 105 = .ok (.if_icmp .ge 25, 3) := by decide +kernel
theorem dX5_count_108 : decode cX5_count 108 = .ok (.iload_n 2, 1) := by decide +kernel
theorem dX5_count_109 : decode cX5_count 109 = .ok (.aload_n 0, 1) := by decide +kernel
theorem dX5_count_110 : decode cX5_count 110 = .ok (.getfield 13, 3) := by decide +kernel
theorem dX5_count_113 : decode cX5_count 113 = .ok (.bipush 30, 2) := by decide +kernel
theorem dX5_count_115 : decode cX5_count 115 = .ok (.iconst 4, 1) := by decide +kernel
theorem dX5_count_116 : decode cX5_count 116 = .ok (.iload_n 3, 1) := by decide +kernel
theorem dX5_count_117 : decode cX5_count 117 = .ok (.imul, 1) := by decide +kernel
theorem dX5_count_118 : decode cX5_count 118 = .ok (.iadd, 1) := by decide +kernel
theorem dX5_count_119 : decode cX5_count 119 = .ok (.iconst 1, 1) := by decide +kernel
theorem dX5_count_120 : decode cX5_count 120 = .ok (.iadd, 1) := by decide +kernel
theorem dX5_count_121 : decode cX5_count 121 = .ok (.iaload, 1) := by decide +kernel
theorem dX5_count_122 : decode cX5_count 122 = .ok (.iadd, 1) := by decide +kernel
theorem dX5_count_123 : decode cX5_count 123 = .ok (.istore_n 2, 1) := by decide +kernel
theorem dX5_count_124 : decode cX5_count 124 = .ok (.iinc 3 1, 3) := by decide +kernel
theorem dX5_count_127 : decode cX5_count 127 = .ok (.goto (-29), 3) := by decide +kernel
theorem dX5_count_130 : decode cX5_count 130 = .ok (.iload_n 2, 1) := by decide +kernel
theorem dX5_count_131 : decode cX5_count 131 = .ok (.ireturn, 1) := by decide +kernel
theorem dX5_count_132 : decode cX5_count 132 = .ok (.aload_n 0, 1) := by decide +kernel
theorem dX5_count_133 : decode cX5_count 133 = .ok (.getfield 194, 3) := by decide +kernel
theorem dX5_count_136 : decode cX5_count 136 = .ok (.ireturn, 1) := by decide +kernel
theorem dX5_count_137 : decode cX5_count 137 = .ok (.aload_n 0, 1) := by decide +kernel
theorem dX5_count_138 : decode cX5_count 138 = .ok (.getfield 119, 3) := by decide +kernel
theorem dX5_count_141 : decode cX5_count 141 = .ok (.ireturn, 1) := by decide +kernel
theorem dX5_count_142 : decode cX5_count 142 = .ok (.iload_n 1, 1) := by decide +kernel
theorem dX5_count_143 : decode cX5_count 143 = .ok (.bipush 11, 2) := by decide +kernel
theorem dX5_count_145 : decode cX5_count 145 = .ok (.if_icmp .lt 21, 3) := by decide +kernel
theorem dX5_count_148 : decode cX5_count 148 = .ok (.iload_n 1, 1) := by decide +kernel
theorem dX5_count_149 : decode cX5_count 149 = .ok (.bipush 16, 2) := by decide +kernel
theorem dX5_count_151 : decode cX5_count 151 = .ok (.if_icmp .gt 15, 3) := by decide +kernel
theorem dX5_count_154 : decode cX5_count 154 = .ok (.aload_n 0, 1) := by decide +kernel
theorem dX5_count_155 : decode cX5_count 155 = .ok (.getfield 1, 3) := by decide +kernel
theorem dX5_count_158 : decode cX5_count 158 = .ok (.iload_n 1, 1) := by decide +kernel
theorem dX5_count_159 : decode cX5_count 159 = .ok (.bipush 10, 2) := by decide +kernel
theorem dX5_count_161 : decode cX5_count 161 = .ok (.isub, 1) := by decide +kernel
theorem dX5_count_162 : decode cX5_count 162 = .ok (.iaload, 1) := by decide +kernel
theorem dX5_count_163 : decode cX5_count 163 = .ok (.goto 5, 3) := by decide +kernel
theorem dX5_count_166 : decode cX5_count 166 = .ok (.bipush (-9), 2) := by decide +kernel
theorem dX5_count_168 : decode cX5_count 168 = .ok (.ireturn, 1) := by decide +kernel
end
section
theorem dL_law_0 : decode cL_law 0 = .ok (.new 7, 3) := by decide +kernel
theorem dL_law_3 : decode cL_law 3 = .ok (.dup, 1) := by decide +kernel
theorem dL_law_4 : decode cL_law 4 = .ok (.invokespecial 9, 3) := by decide +kernel
theorem dL_law_7 : decode cL_law 7 = .ok (.astore_n 1, 1) := by decide +kernel
theorem dL_law_8 : decode cL_law 8 = .ok (.new 10, 3) := by decide +kernel
theorem dL_law_11 : decode cL_law 11 = .ok (.dup, 1) := by decide +kernel
theorem dL_law_12 : decode cL_law 12 = .ok (.invokespecial 12, 3) := by decide +kernel
theorem dL_law_15 : decode cL_law 15 = .ok (.astore_n 2, 1) := by decide +kernel
theorem dL_law_16 : decode cL_law 16 = .ok (.iconst 0, 1) := by decide +kernel
theorem dL_law_17 : decode cL_law 17 = .ok (.istore_n 3, 1) := by decide +kernel
theorem dL_law_18 : decode cL_law 18 = .ok (.iload_n 3, 1) := by decide +kernel
theorem dL_law_19 : decode cL_law 19 = .ok (.aload_n 0, 1) := by decide +kernel
theorem dL_law_20 : decode cL_law 20 = .ok (.arraylength, 1) := by decide +kernel
theorem dL_law_21 : decode cL_law 21 = .ok (.iconst 3, 1) := by decide +kernel
theorem dL_law_22 : decode cL_law 22 = .ok (.isub, 1) := by decide +kernel
theorem dL_law_23 : decode cL_law 23 = .ok (.if_icmp .gt 832, 3) := by decide +kernel
theorem dL_law_26 : decode cL_law 26 = .ok (.aload_n 0, 1) := by decide +kernel
theorem dL_law_27 : decode cL_law 27 = .ok (.iload_n 3, 1) := by decide +kernel
theorem dL_law_28 : decode cL_law 28 = .ok (.iaload, 1) := by decide +kernel
theorem dL_law_29 : decode cL_law 29 = .ok (.bipush 31, 2) := by decide +kernel
theorem dL_law_31 : decode cL_law 31 = .ok (.iand, 1) := by decide +kernel
theorem dL_law_32 : decode cL_law 32 = .ok (.tableswitch 817 0 29 #[136, 159, 172, 205, 238, 271, 304, 337, 350, 383, 416, 429, 452, 475, 498, 521, 534, 557, 580, 604, 627, 650, 663, 686, 709, 722, 735, 768, 781, 794], 136) := by decide +kernel
theorem dL_law_168 : decode cL_law 168 = .ok (.aload_n 1, 1) := by decide +kernel
theorem dL_law_169 : decode cL_law 169 = .ok (.aload_n 0, 1) := by decide +kernel
theorem dL_law_170 : decode cL_law 170 = .ok (.iload_n 3, 1) := by decide +kernel
theorem dL_law_171 : decode cL_law 171 = .ok (.iconst 1, 1) := by decide +kernel
theorem dL_law_172 : decode cL_law 172 = .ok (.iadd, 1) := by decide +kernel
theorem dL_law_173 : decode cL_law 173 = .ok (.iaload, 1) := by decide +kernel
theorem dL_law_174 : decode cL_law 174 = .ok (.invokevirtual 13, 3) := by decide +kernel
theorem dL_law_177 : decode cL_law 177 = .ok (.aload_n 2, 1) := by decide +kernel
theorem dL_law_178 : decode cL_law 178 = .ok (.aload_n 0, 1) := by decide +kernel
theorem dL_law_179 : decode cL_law 179 = .ok (.iload_n 3, 1) := by decide +kernel
theorem dL_law_180 : decode cL_law 180 = .ok (.iconst 1, 1) := by decide +kernel
theorem dL_law_181 : decode cL_law 181 = .ok (.iadd, 1) := by decide +kernel
theorem dL_law_182 : decode cL_law 182 = .ok (.iaload, 1) := by decide +kernel
theorem dL_law_183 : decode cL_law 183 = .ok (.invokevirtual 17, 3) := by decide +kernel
theorem dL_law_186 : decode cL_law 186 = .ok (.if_icmp .eq 663, 3) := by decide +kernel
theorem dL_law_189 : decode cL_law 189 = .ok (.iconst 0, 1) := by decide +kernel
theorem dL_law_190 : decode cL_law 190 = .ok (.ireturn, 1) := by decide +kernel
theorem dL_law_191 : decode cL_law 191 = .ok (.aload_n 1, 1) := by decide +kernel
theorem dL_law_192 : decode cL_law 192 = .ok (.invokevirtual 18, 3) := by decide +kernel
theorem dL_law_195 : decode cL_law 195 = .ok (.aload_n 2, 1) := by decide +kernel
theorem dL_law_196 : decode cL_law 196 = .ok (.invokevirtual 22, 3) := by decide +kernel
theorem dL_law_199 : decode cL_law 199 = .ok (.if_icmp .eq 650, 3) := by decide +kernel
theorem dL_law_202 : decode cL_law 202 = .ok (.iconst 0, 1) := by decide +kernel
theorem dL_law_203 : decode cL_law 203 = .ok (.ireturn, 1) := by decide +kernel
theorem dL_law_204 : decode cL_law 204 = .ok (.aload_n 1, 1) := by decide +kernel
theorem dL_law_205 : decode cL_law 205 = .ok (.aload_n 0, 1) := by decide +kernel
theorem dL_law_206 : decode cL_law 206 = .ok (.iload_n 3, 1) := by decide +kernel
theorem dL_law_207 : decode cL_law 207 = .ok (.iconst 1, 1) := by decide +kernel
theorem dL_law_208 : decode cL_law 208 = .ok (.iadd, 1) := by decide +kernel
theorem dL_law_209 : decode cL_law 209 = .ok (.iaload, 1) := by decide +kernel
theorem dL_law_210 : decode cL_law 210 = .ok (.aload_n 0, 1) := by decide +kernel
theorem dL_law_211 : decode cL_law 211 = .ok (.iload_n 3, 1) := by decide +kernel
theorem dL_law_212 : decode cL_law 212 = .ok (.iconst 2, 1) := by decide +kernel
theorem dL_law_213 : decode cL_law 213 = .ok (.iadd, 1) := by decide +kernel
theorem dL_law_214 : decode cL_law 214 = .ok (.iaload, 1) := by decide +kernel
theorem dL_law_215 : decode cL_law 215 = .ok (.invokevirtual 23, 3) := by decide +kernel
theorem dL_law_218 : decode cL_law 218 = .ok (.aload_n 2, 1) := by decide +kernel
theorem dL_law_219 : decode cL_law 219 = .ok (.aload_n 0, 1) := by decide +kernel
theorem dL_law_220 : decode cL_law 220 = .ok (.iload_n 3, 1) := by decide +kernel
theorem dL_law_221 : decode cL_law 221 = .ok (.iconst 1, 1) := by decide +kernel
theorem dL_law_222 : decode cL_law 222 = .ok (.iadd, 1) := by decide +kernel
theorem dL_law_223 : decode cL_law 223 = .ok (.iaload, 1) := by decide +kernel
theorem dL_law_224 : decode cL_law 224 = .ok (.aload_n 0, 1) := by decide +kernel
theorem dL_law_225 : decode cL_law 225 = .ok (.iload_n 3, 1) := by decide +kernel
theorem dL_law_226 : decode cL_law 226 = .ok (.iconst 2, 1) := by decide +kernel
theorem dL_law_227 : decode cL_law 227 = .ok (.iadd, 1) := by decide +kernel
theorem dL_law_228 : decode cL_law 228 = .ok (.iaload, 1) := by decide +kernel
theorem dL_law_229 : decode cL_law 229 = .ok (.invokevirtual 27, 3) := by decide +kernel
theorem dL_law_232 : decode cL_law 232 = .ok (.if_icmp .eq 617, 3) := by decide +kernel
theorem dL_law_235 : decode cL_law 235 = .ok (.iconst 0, 1) := by decide +kernel
theorem dL_law_236 : decode cL_law 236 = .ok (.ireturn, 1) := by decide +kernel
theorem dL_law_237 : decode cL_law 237 = .ok (.aload_n 1, 1) := by decide +kernel
theorem dL_law_238 : decode cL_law 238 = .ok (.aload_n 0, 1) := by decide +kernel
theorem dL_law_239 : decode cL_law 239 = .ok (.iload_n 3, 1) := by decide +kernel
theorem dL_law_240 : decode cL_law 240 = .ok (.iconst 1, 1) := by decide +kernel
theorem dL_law_241 : decode cL_law 241 = .ok (.iadd, 1) := by decide +kernel
theorem dL_law_242 : decode cL_law 242 = .ok (.iaload, 1) := by decide +kernel
theorem dL_law_243 : decode cL_law 243 = .ok (.aload_n 0, 1) := by decide +kernel
theorem dL_law_244 : decode cL_law 244 = .ok (.iload_n 3, 1) := by decide +kernel
theorem dL_law_245 : decode cL_law 245 = .ok (.iconst 2, 1) := by decide +kernel
theorem dL_law_246 : decode cL_law 246 = .ok (.iadd, 1) := by decide +kernel
theorem dL_law_247 : decode cL_law 247 = .ok (.iaload, 1) := by decide +kernel
theorem dL_law_248 : decode cL_law 248 = .ok (.invokevirtual 28, 3) := by decide +kernel
theorem dL_law_251 : decode cL_law 251 = .ok (.aload_n 2, 1) := by decide +kernel
theorem dL_law_252 : decode cL_law 252 = .ok (.aload_n 0, 1) := by decide +kernel
theorem dL_law_253 : decode cL_law 253 = .ok (.iload_n 3, 1) := by decide +kernel
theorem dL_law_254 : decode cL_law 254 = .ok (.iconst 1, 1) := by decide +kernel
theorem dL_law_255 : decode cL_law 255 = .ok (.iadd, 1) := by decide +kernel
theorem dL_law_256 : decode cL_law 256 = .ok (.iaload, 1) := by decide +kernel
theorem dL_law_257 : decode cL_law 257 = .ok (.aload_n 0, 1) := by decide +kernel
theorem dL_law_258 : decode cL_law 258 = .ok (.iload_n 3, 1) := by decide +kernel
theorem dL_law_259 : decode cL_law 259 = .ok (.iconst 2, 1) := by decide +kernel
theorem dL_law_260 : decode cL_law 260 = .ok (.iadd, 1) := by decide +kernel
theorem dL_law_261 : decode cL_law 261 = .ok (.iaload, 1) := by decide +kernel
theorem dL_law_262 : decode cL_law 262 = .ok (.invokevirtual 31, 3) := by decide +kernel
theorem dL_law_265 : decode cL_law 265 = .ok (.if_icmp .eq 584, 3) := by decide +kernel
theorem dL_law_268 : decode cL_law 268 = .ok (.iconst 0, 1) := by decide +kernel
theorem dL_law_269 : decode cL_law 269 = .ok (.ireturn, 1) := by decide +kernel
theorem dL_law_270 : decode cL_law 270 = .ok (.aload_n 1, 1) := by decide +kernel
theorem dL_law_271 : decode cL_law 271 = .ok (.aload_n 0, 1) := by decide +kernel
theorem dL_law_272 : decode cL_law 272 = .ok (.iload_n 3, 1) := by decide +kernel
theorem dL_law_273 : decode cL_law 273 = .ok (.iconst 1, 1) := by decide +kernel
theorem dL_law_274 : decode cL_law 274 = .ok (.iadd, 1) := by decide +kernel
theorem dL_law_275 : decode cL_law 275 = .ok (.iaload, 1) := by decide +kernel
theorem dL_law_276 : decode cL_law 276 = .ok (.aload_n 0, 1) := by decide +kernel
theorem dL_law_277 : decode cL_law 277 = .ok (.iload_n 3, 1) := by decide +kernel
theorem dL_law_278 : decode cL_law 278 = .ok (.iconst 2, 1) := by decide +kernel
theorem dL_law_279 : decode cL_law 279 = .ok (.iadd, 1) := by decide +kernel
theorem dL_law_280 : decode cL_law 280 = .ok (.iaload, 1) := by decide +kernel
theorem dL_law_281 : decode cL_law 281 = .ok (.invokevirtual 32, 3) := by decide +kernel
theorem dL_law_284 : decode cL_law 284 = .ok (.aload_n 2, 1) := by decide +kernel
theorem dL_law_285 : decode cL_law 285 = .ok (.aload_n 0, 1) := by decide +kernel
theorem dL_law_286 : decode cL_law 286 = .ok (.iload_n 3, 1) := by decide +kernel
theorem dL_law_287 : decode cL_law 287 = .ok (.iconst 1, 1) := by decide +kernel
theorem dL_law_288 : decode cL_law 288 = .ok (.iadd, 1) := by decide +kernel
theorem dL_law_289 : decode cL_law 289 = .ok (.iaload, 1) := by decide +kernel
theorem dL_law_290 : decode cL_law 290 = .ok (.aload_n 0, 1) := by decide +kernel
theorem dL_law_291 : decode cL_law 291 = .ok (.iload_n 3, 1) := by decide +kernel
theorem dL_law_292 : decode cL_law 292 = .ok (.iconst 2, 1) := by decide +kernel
theorem dL_law_293 : decode cL_law 293 = .ok (.iadd, 1) := by decide +kernel
theorem dL_law_294 : decode cL_law 294 = .ok (.iaload, 1) := by decide +kernel
theorem dL_law_295 : decode cL_law 295 = .ok (.invokevirtual 35, 3) := by decide +kernel
theorem dL_law_298 : decode cL_law 298 = .ok (.if_icmp .eq 551, 3) := by decide +kernel
theorem dL_law_301 : decode cL_law 301 = .ok (.iconst 0, 1) := by decide +kernel
theorem dL_law_302 : decode cL_law 302 = .ok (.ireturn, 1) := by decide +kernel
theorem dL_law_303 : decode cL_law 303 = .ok (.aload_n 1, 1) := by decide +kernel
theorem dL_law_304 : decode cL_law 304 = .ok (.aload_n 0, 1) := by decide +kernel
theorem dL_law_305 : decode cL_law 305 = .ok (.iload_n 3, 1) := by decide +kernel
theorem dL_law_306 : decode cL_law 306 = .ok (.iconst 1, 1) := by decide +kernel
theorem dL_law_307 : decode cL_law 307 = .ok (.iadd, 1) := by decide +kernel
theorem dL_law_308 : decode cL_law 308 = .ok (.iaload, 1) := by decide +kernel
theorem dL_law_309 : decode cL_law 309 = .ok (.aload_n 0, 1) := by decide +kernel
theorem dL_law_310 : decode cL_law 310 = .ok (.iload_n 3, 1) := by decide +kernel
theorem dL_law_311 : decode cL_law 311 = .ok (.iconst 2, 1) := by decide +kernel
theorem dL_law_312 : decode cL_law 312 = .ok (.iadd, 1) := by decide +kernel
theorem dL_law_313 : decode cL_law 313 = .ok (.iaload, 1) := by decide +kernel
theorem dL_law_314 : decode cL_law 314 = .ok (.invokevirtual 36, 3) := by decide +kernel
theorem dL_law_317 : decode cL_law 317 = .ok (.aload_n 2, 1) := by decide +kernel
theorem dL_law_318 : decode cL_law 318 = .ok (.aload_n 0, 1) := by decide +kernel
theorem dL_law_319 : decode cL_law 319 = .ok (.iload_n 3, 1) := by decide +kernel
theorem dL_law_320 : decode cL_law 320 = .ok (.iconst 1, 1) := by decide +kernel
theorem dL_law_321 : decode cL_law 321 = .ok (.iadd, 1) := by decide +kernel
theorem dL_law_322 : decode cL_law 322 = .ok (.iaload, 1) := by decide +kernel
theorem dL_law_323 : decode cL_law 323 = .ok (.aload_n 0, 1) := by decide +kernel
theorem dL_law_324 : decode cL_law 324 = .ok (.iload_n 3, 1) := by decide +kernel
theorem dL_law_325 : decode cL_law 325 = .ok (.iconst 2, 1) := by decide +kernel
theorem dL_law_326 : decode cL_law 326 = .ok (.iadd, 1) := by decide +kernel
theorem dL_law_327 : decode cL_law 327 = .ok (.iaload, 1) := by decide +kernel
theorem dL_law_328 : decode cL_law 328 = .ok (.invokevirtual 39, 3) := by decide +kernel
theorem dL_law_331 : decode cL_law 331 = .ok (.if_icmp .eq 518, 3) := by decide +kernel
theorem dL_law_334 : decode cL_law 334 = .ok (.iconst 0, 1) := by decide +kernel
theorem dL_law_335 : decode cL_law 335 = .ok (.ireturn, 1) := by decide +kernel
theorem dL_law_336 : decode cL_law 336 = .ok (.aload_n 1, 1) := by decide +kernel
theorem dL_law_337 : decode cL_law 337 = .ok (.aload_n 0, 1) := by decide +kernel
theorem dL_law_338 : decode cL_law 338 = .ok (.iload_n 3, 1) := by decide +kernel
theorem dL_law_339 : decode cL_law 339 = .ok (.iconst 1, 1) := by decide +kernel
theorem dL_law_340 : decode cL_law 340 = .ok (.iadd, 1) := by decide +kernel
theorem dL_law_341 : decode cL_law 341 = .ok (.iaload, 1) := by decide +kernel
theorem dL_law_342 : decode cL_law 342 = .ok (.aload_n 0, 1) := by decide +kernel
theorem dL_law_343 : decode cL_law 343 = .ok (.iload_n 3, 1) := by decide +kernel
theorem dL_law_344 : decode cL_law 344 = .ok (.iconst 2, 1) := by decide +kernel
theorem dL_law_345 : decode cL_law 345 = .ok (.iadd, 1) := by decide +kernel
theorem dL_law_346 : decode cL_law 346 = .ok (.iaload, 1) := by decide +kernel
theorem dL_law_347 : decode cL_law 347 = .ok (.invokevirtual 40, 3) := by decide +kernel
theorem dL_law_350 : decode cL_law 350 = .ok (.aload_n 2, 1) := by decide +kernel
theorem dL_law_351 : decode cL_law 351 = .ok (.aload_n 0, 1) := by decide +kernel
theorem dL_law_352 : decode cL_law 352 = .ok (.iload_n 3, 1) := by decide +kernel
theorem dL_law_353 : decode cL_law 353 = .ok (.iconst 1, 1) := by decide +kernel
theorem dL_law_354 : decode cL_law 354 = .ok (.iadd, 1) := by decide +kernel
theorem dL_law_355 : decode cL_law 355 = .ok (.iaload, 1) := by decide +kernel
theorem dL_law_356 : decode cL_law 356 = .ok (.aload_n 0, 1) := by decide +kernel
theorem dL_law_357 : decode cL_law 357 = .ok (.iload_n 3, 1) := by decide +kernel
theorem dL_law_358 : decode cL_law 358 = .ok (.iconst 2, 1) := by decide +kernel
theorem dL_law_359 : decode cL_law 359 = .ok (.iadd, 1) := by decide +kernel
theorem dL_law_360 : decode cL_law 360 = .ok (.iaload, 1) := by decide +kernel
theorem dL_law_361 : decode cL_law 361 = .ok (.invokevirtual 43, 3) := by decide +kernel
theorem dL_law_364 : decode cL_law 364 = .ok (.if_icmp .eq 485, 3) := by decide +kernel
theorem dL_law_367 : decode cL_law 367 = .ok (.iconst 0, 1) := by decide +kernel
theorem dL_law_368 : decode cL_law 368 = .ok (.ireturn, 1) := by decide +kernel
theorem dL_law_369 : decode cL_law 369 = .ok (.aload_n 1, 1) := by decide +kernel
theorem dL_law_370 : decode cL_law 370 = .ok (.invokevirtual 44, 3) := by decide +kernel
theorem dL_law_373 : decode cL_law 373 = .ok (.aload_n 2, 1) := by decide +kernel
theorem dL_law_374 : decode cL_law 374 = .ok (.invokevirtual 47, 3) := by decide +kernel
theorem dL_law_377 : decode cL_law 377 = .ok (.if_icmp .eq 472, 3) := by decide +kernel
theorem dL_law_380 : decode cL_law 380 = .ok (.iconst 0, 1) := by decide +kernel
theorem dL_law_381 : decode cL_law 381 = .ok (.ireturn, 1) := by decide +kernel
theorem dL_law_382 : decode cL_law 382 = .ok (.aload_n 1, 1) := by decide +kernel
theorem dL_law_383 : decode cL_law 383 = .ok (.aload_n 0, 1) := by decide +kernel
theorem dL_law_384 : decode cL_law 384 = .ok (.iload_n 3, 1) := by decide +kernel
theorem dL_law_385 : decode cL_law 385 = .ok (.iconst 1, 1) := by decide +kernel
theorem dL_law_386 : decode cL_law 386 = .ok (.iadd, 1) := by decide +kernel
theorem dL_law_387 : decode cL_law 387 = .ok (.iaload, 1) := by decide +kernel
theorem dL_law_388 : decode cL_law 388 = .ok (.aload_n 0, 1) := by decide +kernel
theorem dL_law_389 : decode cL_law 389 = .ok (.iload_n 3, 1) := by decide +kernel
theorem dL_law_390 : decode cL_law 390 = .ok (.iconst 2, 1) := by decide +kernel
theorem dL_law_391 : decode cL_law 391 = .ok (.iadd, 1) := by decide +kernel
theorem dL_law_392 : decode cL_law 392 = .ok (.iaload, 1) := by decide +kernel
theorem dL_law_393 : decode cL_law 393 = .ok (.invokevirtual 48, 3) := by decide +kernel
theorem dL_law_396 : decode cL_law 396 = .ok (.aload_n 2, 1) := by decide +kernel
theorem dL_law_397 : decode cL_law 397 = .ok (.aload_n 0, 1) := by decide +kernel
theorem dL_law_398 : decode cL_law 398 = .ok (.iload_n 3, 1) := by decide +kernel
theorem dL_law_399 : decode cL_law 399 = .ok (.iconst 1, 1) := by decide +kernel
theorem dL_law_400 : decode cL_law 400 = .ok (.iadd, 1) := by decide +kernel
theorem dL_law_401 : decode cL_law 401 = .ok (.iaload, 1) := by decide +kernel
theorem dL_law_402 : decode cL_law 402 = .ok (.aload_n 0, 1) := by decide +kernel
theorem dL_law_403 : decode cL_law 403 = .ok (.iload_n 3, 1) := by decide +kernel
theorem dL_law_404 : decode cL_law 404 = .ok (.iconst 2, 1) := by decide +kernel
theorem dL_law_405 : decode cL_law 405 = .ok (.iadd, 1) := by decide +kernel
theorem dL_law_406 : decode cL_law 406 = .ok (.iaload, 1) := by decide +kernel
theorem dL_law_407 : decode cL_law 407 = .ok (.invokevirtual 51, 3) := by decide +kernel
theorem dL_law_410 : decode cL_law 410 = .ok (.if_icmp .eq 439, 3) := by decide +kernel
theorem dL_law_413 : decode cL_law 413 = .ok (.iconst 0, 1) := by decide +kernel
theorem dL_law_414 : decode cL_law 414 = .ok (.ireturn, 1) := by decide +kernel
theorem dL_law_415 : decode cL_law 415 = .ok (.aload_n 1, 1) := by decide +kernel
theorem dL_law_416 : decode cL_law 416 = .ok (.aload_n 0, 1) := by decide +kernel
theorem dL_law_417 : decode cL_law 417 = .ok (.iload_n 3, 1) := by decide +kernel
theorem dL_law_418 : decode cL_law 418 = .ok (.iconst 1, 1) := by decide +kernel
theorem dL_law_419 : decode cL_law 419 = .ok (.iadd, 1) := by decide +kernel
theorem dL_law_420 : decode cL_law 420 = .ok (.iaload, 1) := by decide +kernel
theorem dL_law_421 : decode cL_law 421 = .ok (.aload_n 0, 1) := by decide +kernel
theorem dL_law_422 : decode cL_law 422 = .ok (.iload_n 3, 1) := by decide +kernel
theorem dL_law_423 : decode cL_law 423 = .ok (.iconst 2, 1) := by decide +kernel
theorem dL_law_424 : decode cL_law 424 = .ok (.iadd, 1) := by decide +kernel
theorem dL_law_425 : decode cL_law 425 = .ok (.iaload, 1) := by decide +kernel
theorem dL_law_426 : decode cL_law 426 = .ok (.invokevirtual 52, 3) := by decide +kernel
theorem dL_law_429 : decode cL_law 429 = .ok (.aload_n 2, 1) := by decide +kernel
theorem dL_law_430 : decode cL_law 430 = .ok (.aload_n 0, 1) := by decide +kernel
theorem dL_law_431 : decode cL_law 431 = .ok (.iload_n 3, 1) := by decide +kernel
theorem dL_law_432 : decode cL_law 432 = .ok (.iconst 1, 1) := by decide +kernel
theorem dL_law_433 : decode cL_law 433 = .ok (.iadd, 1) := by decide +kernel
theorem dL_law_434 : decode cL_law 434 = .ok (.iaload, 1) := by decide +kernel
theorem dL_law_435 : decode cL_law 435 = .ok (.aload_n 0, 1) := by decide +kernel
theorem dL_law_436 : decode cL_law 436 = .ok (.iload_n 3, 1) := by decide +kernel
theorem dL_law_437 : decode cL_law 437 = .ok (.iconst 2, 1) := by decide +kernel
theorem dL_law_438 : decode cL_law 438 = .ok (.iadd, 1) := by decide +kernel
theorem dL_law_439 : decode cL_law 439 = .ok (.iaload, 1) := by decide +kernel
theorem dL_law_440 : decode cL_law 440 = .ok (.invokevirtual 55, 3) := by decide +kernel
theorem dL_law_443 : decode cL_law 443 = .ok (.if_icmp .eq 406, 3) := by decide +kernel
theorem dL_law_446 : decode cL_law 446 = .ok (.iconst 0, 1) := by decide +kernel
theorem dL_law_447 : decode cL_law 447 = .ok (.ireturn, 1) := by decide +kernel
theorem dL_law_448 : decode cL_law 448 = .ok (.aload_n 1, 1) := by decide +kernel
theorem dL_law_449 : decode cL_law 449 = .ok (.invokevirtual 56, 3) := by decide +kernel
theorem dL_law_452 : decode cL_law 452 = .ok (.aload_n 2, 1) := by decide +kernel
theorem dL_law_453 : decode cL_law 453 = .ok (.invokevirtual 59, 3) := by decide +kernel
theorem dL_law_456 : decode cL_law 456 = .ok (.if_icmp .eq 393, 3) := by decide +kernel
theorem dL_law_459 : decode cL_law 459 = .ok (.iconst 0, 1) := by decide +kernel
theorem dL_law_460 : decode cL_law 460 = .ok (.ireturn, 1) := by decide +kernel
theorem dL_law_461 : decode cL_law 461 = .ok (.aload_n 1, 1) := by decide +kernel
theorem dL_law_462 : decode cL_law 462 = .ok (.aload_n 0, 1) := by decide +kernel
theorem dL_law_463 : decode cL_law 463 = .ok (.iload_n 3, 1) := by decide +kernel
theorem dL_law_464 : decode cL_law 464 = .ok (.iconst 1, 1) := by decide +kernel
theorem dL_law_465 : decode cL_law 465 = .ok (.iadd, 1) := by decide +kernel
theorem dL_law_466 : decode cL_law 466 = .ok (.iaload, 1) := by decide +kernel
theorem dL_law_467 : decode cL_law 467 = .ok (.invokevirtual 60, 3) := by decide +kernel
theorem dL_law_470 : decode cL_law 470 = .ok (.aload_n 2, 1) := by decide +kernel
theorem dL_law_471 : decode cL_law 471 = .ok (.aload_n 0, 1) := by decide +kernel
theorem dL_law_472 : decode cL_law 472 = .ok (.iload_n 3, 1) := by decide +kernel
theorem dL_law_473 : decode cL_law 473 = .ok (.iconst 1, 1) := by decide +kernel
theorem dL_law_474 : decode cL_law 474 = .ok (.iadd, 1) := by decide +kernel
theorem dL_law_475 : decode cL_law 475 = .ok (.iaload, 1) := by decide +kernel
theorem dL_law_476 : decode cL_law 476 = .ok (.invokevirtual 63, 3) := by decide +kernel
theorem dL_law_479 : decode cL_law 479 = .ok (.if_icmp .eq 370, 3) := by decide +kernel
theorem dL_law_482 : decode cL_law 482 = .ok (.iconst 0, 1) := by decide +kernel
theorem dL_law_483 : decode cL_law 483 = .ok (.ireturn, 1) := by decide +kernel
theorem dL_law_484 : decode cL_law 484 = .ok (.aload_n 1, 1) := by decide +kernel
theorem dL_law_485 : decode cL_law 485 = .ok (.aload_n 0, 1) := by decide +kernel
theorem dL_law_486 : decode cL_law 486 = .ok (.iload_n 3, 1) := by decide +kernel
theorem dL_law_487 : decode cL_law 487 = .ok (.iconst 1, 1) := by decide +kernel
theorem dL_law_488 : decode cL_law 488 = .ok (.iadd, 1) := by decide +kernel
theorem dL_law_489 : decode cL_law 489 = .ok (.iaload, 1) := by decide +kernel
theorem dL_law_490 : decode cL_law 490 = .ok (.invokevirtual 64, 3) := by decide +kernel
theorem dL_law_493 : decode cL_law 493 = .ok (.aload_n 2, 1) := by decide +kernel
theorem dL_law_494 : decode cL_law 494 = .ok (.aload_n 0, 1) := by decide +kernel
theorem dL_law_495 : decode cL_law 495 = .ok (.iload_n 3, 1) := by decide +kernel
theorem dL_law_496 : decode cL_law 496 = .ok (.iconst 1, 1) := by decide +kernel
theorem dL_law_497 : decode cL_law 497 = .ok (.iadd, 1) := by decide +kernel
theorem dL_law_498 : decode cL_law 498 = .ok (.iaload, 1) := by decide +kernel
theorem dL_law_499 : decode cL_law 499 = .ok (.invokevirtual 67, 3) := by decide +kernel
theorem dL_law_502 : decode cL_law 502 = .ok (.if_icmp .eq 347, 3) := by decide +kernel
theorem dL_law_505 : decode cL_law 505 = .ok (.iconst 0, 1) := by decide +kernel
theorem dL_law_506 : decode cL_law 506 = .ok (.ireturn, 1) := by decide +kernel
theorem dL_law_507 : decode cL_law 507 = .ok (.aload_n 1, 1) := by decide +kernel
theorem dL_law_508 : decode cL_law 508 = .ok (.aload_n 0, 1) := by decide +kernel
theorem dL_law_509 : decode cL_law 509 = .ok (.iload_n 3, 1) := by decide +kernel
theorem dL_law_510 : decode cL_law 510 = .ok (.iconst 1, 1) := by decide +kernel
theorem dL_law_511 : decode cL_law 511 = .ok (.iadd, 1) := by decide +kernel
theorem dL_law_512 : decode cL_law 512 = .ok (.iaload, 1) := by decide +kernel
theorem dL_law_513 : decode cL_law 513 = .ok (.invokevirtual 68, 3) := by decide +kernel
theorem dL_law_516 : decode cL_law 516 = .ok (.aload_n 2, 1) := by decide +kernel
theorem dL_law_517 : decode cL_law 517 = .ok (.aload_n 0, 1) := by decide +kernel
theorem dL_law_518 : decode cL_law 518 = .ok (.iload_n 3, 1) := by decide +kernel
theorem dL_law_519 : decode cL_law 519 = .ok (.iconst 1, 1) := by decide +kernel
theorem dL_law_520 : decode cL_law 520 = .ok (.iadd, 1) := by decide +kernel
theorem dL_law_521 : decode cL_law 521 = .ok (.iaload, 1) := by decide +kernel
theorem dL_law_522 : decode cL_law 522 = .ok (.invokevirtual 71, 3) := by decide +kernel
theorem dL_law_525 : decode cL_law 525 = .ok (.if_icmp .eq 324, 3) := by decide +kernel
theorem dL_law_528 : decode cL_law 528 = .ok (.iconst 0, 1) := by decide +kernel
theorem dL_law_529 : decode cL_law 529 = .ok (.ireturn, 1) := by decide +kernel
theorem dL_law_530 : decode cL_law 530 = .ok (.aload_n 1, 1) := by decide +kernel
theorem dL_law_531 : decode cL_law 531 = .ok (.aload_n 0, 1) := by decide +kernel
theorem dL_law_532 : decode cL_law 532 = .ok (.iload_n 3, 1) := by decide +kernel
theorem dL_law_533 : decode cL_law 533 = .ok (.iconst 1, 1) := by decide +kernel
theorem dL_law_534 : decode cL_law 534 = .ok (.iadd, 1) := by decide +kernel
theorem dL_law_535 : decode cL_law 535 = .ok (.iaload, 1) := by decide +kernel
theorem dL_law_536 : decode cL_law 536 = .ok (.invokevirtual 72, 3) := by decide +kernel
theorem dL_law_539 : decode cL_law 539 = .ok (.aload_n 2, 1) := by decide +kernel
theorem dL_law_540 : decode cL_law 540 = .ok (.aload_n 0, 1) := by decide +kernel
theorem dL_law_541 : decode cL_law 541 = .ok (.iload_n 3, 1) := by decide +kernel
theorem dL_law_542 : decode cL_law 542 = .ok (.iconst 1, 1) := by decide +kernel
theorem dL_law_543 : decode cL_law 543 = .ok (.iadd, 1) := by decide +kernel
theorem dL_law_544 : decode cL_law 544 = .ok (.iaload, 1) := by decide +kernel
theorem dL_law_545 : decode cL_law 545 = .ok (.invokevirtual 75, 3) := by decide +kernel
theorem dL_law_548 : decode cL_law 548 = .ok (.if_icmp .eq 301, 3) := by decide +kernel
theorem dL_law_551 : decode cL_law 551 = .ok (.iconst 0, 1) := by decide +kernel
theorem dL_law_552 : decode cL_law 552 = .ok (.ireturn, 1) := by decide +kernel
theorem dL_law_553 : decode cL_law 553 = .ok (.aload_n 1, 1) := by decide +kernel
theorem dL_law_554 : decode cL_law 554 = .ok (.invokevirtual 76, 3) := by decide +kernel
theorem dL_law_557 : decode cL_law 557 = .ok (.aload_n 2, 1) := by decide +kernel
theorem dL_law_558 : decode cL_law 558 = .ok (.invokevirtual 79, 3) := by decide +kernel
theorem dL_law_561 : decode cL_law 561 = .ok (.if_icmp .eq 288, 3) := by decide +kernel
theorem dL_law_564 : decode cL_law 564 = .ok (.iconst 0, 1) := by decide +kernel
theorem dL_law_565 : decode cL_law 565 = .ok (.ireturn, 1) := by decide +kernel
theorem dL_law_566 : decode cL_law 566 = .ok (.aload_n 1, 1) := by decide +kernel
theorem dL_law_567 : decode cL_law 567 = .ok (.aload_n 0, 1) := by decide +kernel
theorem dL_law_568 : decode cL_law 568 = .ok (.iload_n 3, 1) := by decide +kernel
theorem dL_law_569 : decode cL_law 569 = .ok (.iconst 1, 1) := by decide +kernel
theorem dL_law_570 : decode cL_law 570 = .ok (.iadd, 1) := by decide +kernel
theorem dL_law_571 : decode cL_law 571 = .ok (.iaload, 1) := by decide +kernel
theorem dL_law_572 : decode cL_law 572 = .ok (.invokevirtual 80, 3) := by decide +kernel
theorem dL_law_575 : decode cL_law 575 = .ok (.aload_n 2, 1) := by decide +kernel
theorem dL_law_576 : decode cL_law 576 = .ok (.aload_n 0, 1) := by decide +kernel
theorem dL_law_577 : decode cL_law 577 = .ok (.iload_n 3, 1) := by decide +kernel
theorem dL_law_578 : decode cL_law 578 = .ok (.iconst 1, 1) := by decide +kernel
theorem dL_law_579 : decode cL_law 579 = .ok (.iadd, 1) := by decide +kernel
theorem dL_law_580 : decode cL_law 580 = .ok (.iaload, 1) := by decide +kernel
theorem dL_law_581 : decode cL_law 581 = .ok (.invokevirtual 83, 3) := by decide +kernel
theorem dL_law_584 : decode cL_law 584 = .ok (.if_icmp .eq 265, 3) := by decide +kernel
theorem dL_law_587 : decode cL_law 587 = .ok (.iconst 0, 1) := by decide +kernel
theorem dL_law_588 : decode cL_law 588 = .ok (.ireturn, 1) := by decide +kernel
theorem dL_law_589 : decode cL_law 589 = .ok (.aload_n 1, 1) := by decide +kernel
theorem dL_law_590 : decode cL_law 590 = .ok (.aload_n 0, 1) := by decide +kernel
theorem dL_law_591 : decode cL_law 591 = .ok (.iload_n 3, 1) := by decide +kernel
theorem dL_law_592 : decode cL_law 592 = .ok (.iconst 1, 1) := by decide +kernel
theorem dL_law_593 : decode cL_law 593 = .ok (.iadd, 1) := by decide +kernel
theorem dL_law_594 : decode cL_law 594 = .ok (.iaload, 1) := by decide +kernel
theorem dL_law_595 : decode cL_law 595 = .ok (.invokevirtual 84, 3) := by decide +kernel
theorem dL_law_598 : decode cL_law 598 = .ok (.aload_n 2, 1) := by decide +kernel
theorem dL_law_599 : decode cL_law 599 = .ok (.aload_n 0, 1) := by decide +kernel
theorem dL_law_600 : decode cL_law 600 = .ok (.iload_n 3, 1) := by decide +kernel
theorem dL_law_601 : decode cL_law 601 = .ok (.iconst 1, 1) := by decide +kernel
theorem dL_law_602 : decode cL_law 602 = .ok (.iadd, 1) := by decide +kernel
theorem dL_law_603 : decode cL_law 603 = .ok (.iaload, 1) := by decide +kernel
theorem dL_law_604 : decode cL_law 604 = .ok (.invokevirtual 87, 3) := by decide +kernel
theorem dL_law_607 : decode cL_law 607 = .ok (.if_icmp .eq 242, 3) := by decide +kernel
theorem dL_law_610 : decode cL_law 610 = .ok (.iconst 0, 1) := by decide +kernel
theorem dL_law_611 : decode cL_law 611 = .ok (.ireturn, 1) := by decide +kernel
theorem dL_law_612 : decode cL_law 612 = .ok (.aload_n 1, 1) := by decide +kernel
theorem dL_law_613 : decode cL_law 613 = .ok (.aload_n 0, 1) := by decide +kernel
theorem dL_law_614 : decode cL_law 614 = .ok (.iload_n 3, 1) := by decide +kernel
theorem dL_law_615 : decode cL_law 615 = .ok (.iconst 1, 1) := by decide +kernel
theorem dL_law_616 : decode cL_law 616 = .ok (.iadd, 1) := by decide +kernel
theorem dL_law_617 : decode cL_law 617 = .ok (.iaload, 1) := by decide +kernel
theorem dL_law_618 : decode cL_law 618 = .ok (.invokevirtual 88, 3) := by decide +kernel
theorem dL_law_621 : decode cL_law 621 = .ok (.aload_n 2, 1) := by decide +kernel
theorem dL_law_622 : decode cL_law 622 = .ok (.aload_n 0, 1) := by decide +kernel
theorem dL_law_623 : decode cL_law 623 = .ok (.iload_n 3, 1) := by decide +kernel
theorem dL_law_624 : decode cL_law 624 = .ok (.iconst 1, 1) := by decide +kernel
theorem dL_law_625 : decode cL_law 625 = .ok (.iadd, 1) := by decide +kernel
theorem dL_law_626 : decode cL_law 626 = .ok (.iaload, 1) := by decide +kernel
theorem dL_law_627 : decode cL_law 627 = .ok (.invokevirtual 92, 3) := by decide +kernel
theorem dL_law_630 : decode cL_law 630 = .ok (.lcmp, 1) := by decide +kernel
theorem dL_law_631 : decode cL_law 631 = .ok (.ifCond .eq 218, 3) := by decide +kernel
theorem dL_law_634 : decode cL_law 634 = .ok (.iconst 0, 1) := by decide +kernel
theorem dL_law_635 : decode cL_law 635 = .ok (.ireturn, 1) := by decide +kernel
theorem dL_law_636 : decode cL_law 636 = .ok (.aload_n 1, 1) := by decide +kernel
theorem dL_law_637 : decode cL_law 637 = .ok (.aload_n 0, 1) := by decide +kernel
theorem dL_law_638 : decode cL_law 638 = .ok (.iload_n 3, 1) := by decide +kernel
theorem dL_law_639 : decode cL_law 639 = .ok (.iconst 1, 1) := by decide +kernel
theorem dL_law_640 : decode cL_law 640 = .ok (.iadd, 1) := by decide +kernel
theorem dL_law_641 : decode cL_law 641 = .ok (.iaload, 1) := by decide +kernel
theorem dL_law_642 : decode cL_law 642 = .ok (.invokevirtual 93, 3) := by decide +kernel
theorem dL_law_645 : decode cL_law 645 = .ok (.aload_n 2, 1) := by decide +kernel
theorem dL_law_646 : decode cL_law 646 = .ok (.aload_n 0, 1) := by decide +kernel
theorem dL_law_647 : decode cL_law 647 = .ok (.iload_n 3, 1) := by decide +kernel
theorem dL_law_648 : decode cL_law 648 = .ok (.iconst 1, 1) := by decide +kernel
theorem dL_law_649 : decode cL_law 649 = .ok (.iadd, 1) := by decide +kernel
theorem dL_law_650 : decode cL_law 650 = .ok (.iaload, 1) := by decide +kernel
theorem dL_law_651 : decode cL_law 651 = .ok (.invokevirtual 96, 3) := by decide +kernel
theorem dL_law_654 : decode cL_law 654 = .ok (.if_icmp .eq 195, 3) := by decide +kernel
theorem dL_law_657 : decode cL_law 657 = .ok (.iconst 0, 1) := by decide +kernel
theorem dL_law_658 : decode cL_law 658 = .ok (.ireturn, 1) := by decide +kernel
theorem dL_law_659 : decode cL_law 659 = .ok (.aload_n 1, 1) := by decide +kernel
theorem dL_law_660 : decode cL_law 660 = .ok (.aload_n 0, 1) := by decide +kernel
theorem dL_law_661 : decode cL_law 661 = .ok (.iload_n 3, 1) := by decide +kernel
theorem dL_law_662 : decode cL_law 662 = .ok (.iconst 1, 1) := by decide +kernel
theorem dL_law_663 : decode cL_law 663 = .ok (.iadd, 1) := by decide +kernel
theorem dL_law_664 : decode cL_law 664 = .ok (.iaload, 1) := by decide +kernel
theorem dL_law_665 : decode cL_law 665 = .ok (.invokevirtual 97, 3) := by decide +kernel
theorem dL_law_668 : decode cL_law 668 = .ok (.aload_n 2, 1) := by decide +kernel
theorem dL_law_669 : decode cL_law 669 = .ok (.aload_n 0, 1) := by decide +kernel
theorem dL_law_670 : decode cL_law 670 = .ok (.iload_n 3, 1) := by decide +kernel
theorem dL_law_671 : decode cL_law 671 = .ok (.iconst 1, 1) := by decide +kernel
theorem dL_law_672 : decode cL_law 672 = .ok (.iadd, 1) := by decide +kernel
theorem dL_law_673 : decode cL_law 673 = .ok (.iaload, 1) := by decide +kernel
theorem dL_law_674 : decode cL_law 674 = .ok (.invokevirtual 100, 3) := by decide +kernel
theorem dL_law_677 : decode cL_law 677 = .ok (.if_icmp .eq 172, 3) := by decide +kernel
theorem dL_law_680 : decode cL_law 680 = .ok (.iconst 0, 1) := by decide +kernel
theorem dL_law_681 : decode cL_law 681 = .ok (.ireturn, 1) := by decide +kernel
theorem dL_law_682 : decode cL_law 682 = .ok (.aload_n 1, 1) := by decide +kernel
theorem dL_law_683 : decode cL_law 683 = .ok (.invokevirtual 101, 3) := by decide +kernel
theorem dL_law_686 : decode cL_law 686 = .ok (.aload_n 2, 1) := by decide +kernel
theorem dL_law_687 : decode cL_law 687 = .ok (.invokevirtual 104, 3) := by decide +kernel
theorem dL_law_690 : decode cL_law 690 = .ok (.if_icmp .eq 159, 3) := by decide +kernel
theorem dL_law_693 : decode cL_law 693 = .ok (.iconst 0, 1) := by decide +kernel
theorem dL_law_694 : decode cL_law 694 = .ok (.ireturn, 1) := by decide +kernel
theorem dL_law_695 : decode cL_law 695 = .ok (.aload_n 1, 1) := by decide +kernel
theorem dL_law_696 : decode cL_law 696 = .ok (.aload_n 0, 1) := by decide +kernel
theorem dL_law_697 : decode cL_law 697 = .ok (.iload_n 3, 1) := by decide +kernel
theorem dL_law_698 : decode cL_law 698 = .ok (.iconst 1, 1) := by decide +kernel
theorem dL_law_699 : decode cL_law 699 = .ok (.iadd, 1) := by decide +kernel
theorem dL_law_700 : decode cL_law 700 = .ok (.iaload, 1) := by decide +kernel
theorem dL_law_701 : decode cL_law 701 = .ok (.invokevirtual 105, 3) := by decide +kernel
theorem dL_law_704 : decode cL_law 704 = .ok (.aload_n 2, 1) := by decide +kernel
theorem dL_law_705 : decode cL_law 705 = .ok (.aload_n 0, 1) := by decide +kernel
theorem dL_law_706 : decode cL_law 706 = .ok (.iload_n 3, 1) := by decide +kernel
theorem dL_law_707 : decode cL_law 707 = .ok (.iconst 1, 1) := by decide +kernel
theorem dL_law_708 : decode cL_law 708 = .ok (.iadd, 1) := by decide +kernel
theorem dL_law_709 : decode cL_law 709 = .ok (.iaload, 1) := by decide +kernel
theorem dL_law_710 : decode cL_law 710 = .ok (.invokevirtual 108, 3) := by decide +kernel
theorem dL_law_713 : decode cL_law 713 = .ok (.if_icmp .eq 136, 3) := by decide +kernel
theorem dL_law_716 : decode cL_law 716 = .ok (.iconst 0, 1) := by decide +kernel
theorem dL_law_717 : decode cL_law 717 = .ok (.ireturn, 1) := by decide +kernel
theorem dL_law_718 : decode cL_law 718 = .ok (.aload_n 1, 1) := by decide +kernel
theorem dL_law_719 : decode cL_law 719 = .ok (.aload_n 0, 1) := by decide +kernel
theorem dL_law_720 : decode cL_law 720 = .ok (.iload_n 3, 1) := by decide +kernel
theorem dL_law_721 : decode cL_law 721 = .ok (.iconst 1, 1) := by decide +kernel
theorem dL_law_722 : decode cL_law 722 = .ok (.iadd, 1) := by decide +kernel
theorem dL_law_723 : decode cL_law 723 = .ok (.iaload, 1) := by decide +kernel
theorem dL_law_724 : decode cL_law 724 = .ok (.invokevirtual 109, 3) := by decide +kernel
theorem dL_law_727 : decode cL_law 727 = .ok (.aload_n 2, 1) := by decide +kernel
theorem dL_law_728 : decode cL_law 728 = .ok (.aload_n 0, 1) := by decide +kernel
theorem dL_law_729 : decode cL_law 729 = .ok (.iload_n 3, 1) := by decide +kernel
theorem dL_law_730 : decode cL_law 730 = .ok (.iconst 1, 1) := by decide +kernel
theorem dL_law_731 : decode cL_law 731 = .ok (.iadd, 1) := by decide +kernel
theorem dL_law_732 : decode cL_law 732 = .ok (.iaload, 1) := by decide +kernel
theorem dL_law_733 : decode cL_law 733 = .ok (.invokevirtual 112, 3) := by decide +kernel
theorem dL_law_736 : decode cL_law 736 = .ok (.if_icmp .eq 113, 3) := by decide +kernel
theorem dL_law_739 : decode cL_law 739 = .ok (.iconst 0, 1) := by decide +kernel
theorem dL_law_740 : decode cL_law 740 = .ok (.ireturn, 1) := by decide +kernel
theorem dL_law_741 : decode cL_law 741 = .ok (.aload_n 1, 1) := by decide +kernel
theorem dL_law_742 : decode cL_law 742 = .ok (.invokevirtual 113, 3) := by decide +kernel
theorem dL_law_745 : decode cL_law 745 = .ok (.aload_n 2, 1) := by decide +kernel
theorem dL_law_746 : decode cL_law 746 = .ok (.invokevirtual 116, 3) := by decide +kernel
theorem dL_law_749 : decode cL_law 749 = .ok (.if_icmp .eq 100, 3) := by decide +kernel
theorem dL_law_752 : decode cL_law 752 = .ok (.iconst 0, 1) := by decide +kernel
theorem dL_law_753 : decode cL_law 753 = .ok (.ireturn, 1) := by decide +kernel
theorem dL_law_754 : decode cL_law 754 = .ok (.aload_n 1, 1) := by decide +kernel
theorem dL_law_755 : decode cL_law 755 = .ok (.invokevirtual 117, 3) := by decide +kernel
theorem dL_law_758 : decode cL_law 758 = .ok (.aload_n 2, 1) := by decide +kernel
theorem dL_law_759 : decode cL_law 759 = .ok (.invokevirtual 120, 3) := by decide +kernel
theorem dL_law_762 : decode cL_law 762 = .ok (.if_icmp .eq 87, 3) := by decide +kernel
theorem dL_law_765 : decode cL_law 765 = .ok (.iconst 0, 1) := by decide +kernel
theorem dL_law_766 : decode cL_law 766 = .ok (.ireturn, 1) := by decide +kernel
theorem dL_law_767 : decode cL_law 767 = .ok (.aload_n 1, 1) := by decide +kernel
theorem dL_law_768 : decode cL_law 768 = .ok (.aload_n 0, 1) := by decide +kernel
theorem dL_law_769 : decode cL_law 769 = .ok (.iload_n 3, 1) := by decide +kernel
theorem dL_law_770 : decode cL_law 770 = .ok (.iconst 1, 1) := by decide +kernel
theorem dL_law_771 : decode cL_law 771 = .ok (.iadd, 1) := by decide +kernel
theorem dL_law_772 : decode cL_law 772 = .ok (.iaload, 1) := by decide +kernel
theorem dL_law_773 : decode cL_law 773 = .ok (.aload_n 0, 1) := by decide +kernel
theorem dL_law_774 : decode cL_law 774 = .ok (.iload_n 3, 1) := by decide +kernel
theorem dL_law_775 : decode cL_law 775 = .ok (.iconst 2, 1) := by decide +kernel
theorem dL_law_776 : decode cL_law 776 = .ok (.iadd, 1) := by decide +kernel
theorem dL_law_777 : decode cL_law 777 = .ok (.iaload, 1) := by decide +kernel
theorem dL_law_778 : decode cL_law 778 = .ok (.invokevirtual 121, 3) := by decide +kernel
theorem dL_law_781 : decode cL_law 781 = .ok (.aload_n 2, 1) := by decide +kernel
theorem dL_law_782 : decode cL_law 782 = .ok (.aload_n 0, 1) := by decide +kernel
theorem dL_law_783 : decode cL_law 783 = .ok (.iload_n 3, 1) := by decide +kernel
theorem dL_law_784 : decode cL_law 784 = .ok (.iconst 1, 1) := by decide +kernel
theorem dL_law_785 : decode cL_law 785 = .ok (.iadd, 1) := by decide +kernel
theorem dL_law_786 : decode cL_law 786 = .ok (.iaload, 1) := by decide +kernel
theorem dL_law_787 : decode cL_law 787 = .ok (.aload_n 0, 1) := by decide +kernel
theorem dL_law_788 : decode cL_law 788 = .ok (.iload_n 3, 1) := by decide +kernel
theorem dL_law_789 : decode cL_law 789 = .ok (.iconst 2, 1) := by decide +kernel
theorem dL_law_790 : decode cL_law 790 = .ok (.iadd, 1) := by decide +kernel
theorem dL_law_791 : decode cL_law 791 = .ok (.iaload, 1) := by decide +kernel
theorem dL_law_792 : decode cL_law 792 = .ok (.invokevirtual 124, 3) := by decide +kernel
theorem dL_law_795 : decode cL_law 795 = .ok (.if_icmp .eq 54, 3) := by decide +kernel
theorem dL_law_798 : decode cL_law 798 = .ok (.iconst 0, 1) := by decide +kernel
theorem dL_law_799 : decode cL_law 799 = .ok (.ireturn, 1) := by decide +kernel
theorem dL_law_800 : decode cL_law 800 = .ok (.aload_n 1, 1) := by decide +kernel
theorem dL_law_801 : decode cL_law 801 = .ok (.invokevirtual 125, 3) := by decide +kernel
theorem dL_law_804 : decode cL_law 804 = .ok (.aload_n 2, 1) := by decide +kernel
theorem dL_law_805 : decode cL_law 805 = .ok (.invokevirtual 128, 3) := by decide +kernel
theorem dL_law_808 : decode cL_law 808 = .ok (.if_icmp .eq 41, 3) := by decide +kernel
theorem dL_law_811 : decode cL_law 811 = .ok (.iconst 0, 1) := by decide +kernel
theorem dL_law_812 : decode cL_law 812 = .ok (.ireturn, 1) := by decide +kernel
theorem dL_law_813 : decode cL_law 813 = .ok (.aload_n 1, 1) := by decide +kernel
theorem dL_law_814 : decode cL_law 814 = .ok (.invokevirtual 129, 3) := by decide +kernel
theorem dL_law_817 : decode cL_law 817 = .ok (.aload_n 2, 1) := by decide +kernel
theorem dL_law_818 : decode cL_law 818 = .ok (.invokevirtual 132, 3) := by decide +kernel
theorem dL_law_821 : decode cL_law 821 = .ok (.if_icmp .eq 28, 3) := by decide +kernel
theorem dL_law_824 : decode cL_law 824 = .ok (.iconst 0, 1) := by decide +kernel
theorem dL_law_825 : decode cL_law 825 = .ok (.ireturn, 1) := by decide +kernel
theorem dL_law_826 : decode cL_law 826 = .ok (.aload_n 1, 1) := by decide +kernel
theorem dL_law_827 : decode cL_law 827 = .ok (.aload_n 0, 1) := by decide +kernel
theorem dL_law_828 : decode cL_law 828 = .ok (.iload_n 3, 1) := by decide +kernel
theorem dL_law_829 : decode cL_law 829 = .ok (.iconst 1, 1) := by decide +kernel
theorem dL_law_830 : decode cL_law 830 = .ok (.iadd, 1) := by decide +kernel
theorem dL_law_831 : decode cL_law 831 = .ok (.iaload, 1) := by decide +kernel
theorem dL_law_832 : decode cL_law 832 = .ok (.invokevirtual 133, 3) := by decide +kernel
theorem dL_law_835 : decode cL_law 835 = .ok (.aload_n 2, 1) := by decide +kernel
theorem dL_law_836 : decode cL_law 836 = .ok (.aload_n 0, 1) := by decide +kernel
theorem dL_law_837 : decode cL_law 837 = .ok (.iload_n 3, 1) := by decide +kernel
theorem dL_law_838 : decode cL_law 838 = .ok (.iconst 1, 1) := by decide +kernel
theorem dL_law_839 : decode cL_law 839 = .ok (.iadd, 1) := by decide +kernel
theorem dL_law_840 : decode cL_law 840 = .ok (.iaload, 1) := by decide +kernel
theorem dL_law_841 : decode cL_law 841 = .ok (.invokevirtual 136, 3) := by decide +kernel
theorem dL_law_844 : decode cL_law 844 = .ok (.if_icmp .eq 5, 3) := by decide +kernel
theorem dL_law_847 : decode cL_law 847 = .ok (.iconst 0, 1) := by decide +kernel
theorem dL_law_848 : decode cL_law 848 = .ok (.ireturn, 1) := by decide +kernel
theorem dL_law_849 : decode cL_law 849 = .ok (.iinc 3 3, 3) := by decide +kernel
theorem dL_law_852 : decode cL_law 852 = .ok (.goto (-834), 3) := by decide +kernel
theorem dL_law_855 : decode cL_law 855 = .ok (.iconst 1, 1) := by decide +kernel
theorem dL_law_856 : decode cL_law 856 = .ok (.ireturn, 1) := by decide +kernel
end
section
/-! THE WORLD OF NUMBERS: N cells; the k-th stands at ad k, has a shape that never changes, and holds the ints σ k. -/
def gt : List Cond := lw_tbl.filter goodWord
theorem gt_good {w : Cond} (h : w ∈ gt) : goodWord w = true := (List.mem_filter.mp h).2
theorem gt_tbl {w : Cond} (h : w ∈ gt) : w ∈ lw_tbl := (List.mem_filter.mp h).1
theorem gt_in {w : Cond} (i : Nat) (h : lw_tbl[i]? = some w) (hg : goodWord w = true) : w ∈ gt := List.mem_filter.mpr ⟨List.mem_of_getElem? h, hg⟩
/-- tables, array classes (int, char, int[]), how many cells, where they stand, statics: (MOST_OF_SETTING's row, THREES' row), (the texts, their bytes) -/
abbrev WD : Type := va_G × (ClassId × ClassId × ClassId) × Nat × (Nat → Nat) × (Nat × Nat) × ((Nat → Nat) × (Nat → Nat))
abbrev wD (w : WD) : va_G := w.1
abbrev wI (w : WD) : ClassId := w.2.1.1
abbrev wC (w : WD) : ClassId := w.2.1.2.1
abbrev wO (w : WD) : ClassId := w.2.1.2.2
abbrev wN (w : WD) : Nat := w.2.2.1
abbrev wA (w : WD) : Nat → Nat := w.2.2.2.1
abbrev aI (w : WD) (n : Nat) (g : Nat → Int32) : va_E := .inl (wI w, n, .inl g)
abbrev aC (w : WD) (n : Nat) (g : Nat → Int32) : va_E := .inl (wC w, n, .inl g)
abbrev rA (w : WD) (k : Nat) : Value := .ref (wA w k)
abbrev oH (w : WD) (b : Nat) (g : Nat → Int32) : va_E := .inr (1, [rA w (b + 1), rA w (b + 2), rA w (b + 3), rA w (b + 4), .int (g 4), .int (g 5), .int (g 6)])
abbrev aO (w : WD) (b : Nat) : va_E := .inl (wO w, 4, .inr (.inr (.inr (.inr (fun i => some (wA w (b + 5 + i)))))))
def shp (w : WD) : Nat → (Nat → Int32) → va_E
  | 0 => fun g => .inr (4, [rA w 1, rA w 10, rA w 19, rA w 28, rA w 31, rA w 32, rA w 34, rA w 35, rA w 36, rA w 37, .int (g 10), .int (g 11)])
  | 1 => oH w 1
  | 2 => aI w 5
  | 3 => aI w 7
  | 4 => aI w 6
  | 5 => fun _ => aO w 1
  | 6 => aI w 4
  | 7 => aI w 4
  | 8 => aI w 4
  | 9 => aI w 4
  | 10 => oH w 10
  | 11 => aI w 5
  | 12 => aI w 7
  | 13 => aI w 6
  | 14 => fun _ => aO w 10
  | 15 => aI w 4
  | 16 => aI w 4
  | 17 => aI w 4
  | 18 => aI w 4
  | 19 => oH w 19
  | 20 => aI w 5
  | 21 => aI w 7
  | 22 => aI w 6
  | 23 => fun _ => aO w 19
  | 24 => aI w 4
  | 25 => aI w 4
  | 26 => aI w 4
  | 27 => aI w 4
  | 28 => fun g => .inr (3, [rA w 29, rA w 30, .int (g 2)])
  | 29 => aI w 6
  | 30 => aI w 20
  | 31 => fun g => .inr (0, [.int (g 0), .int (g 1)])
  | 32 => fun g => .inr (2, [rA w 33, .int (g 1)])
  | 33 => aC w 96
  | 34 => aI w 20
  | 35 => aI w 7
  | 36 => aI w 81
  | 37 => aI w 64
  | 38 => fun g => .inr (5, [rA w 39, rA w 40, rA w 41, rA w 42, .int (g 4), rA w 43, rA w 44, .int (g 7), .int (g 8), .int (g 9), .int (g 10), .int (g 11), .int (g 12), rA w 45, rA w 46, .int (g 15), .int (g 16), .int (g 17), rA w 47, rA w 48, rA w 49, rA w 50, .int (g 22), rA w 51, .int (g 24), rA w 52, rA w 53, .int (g 27)])
  | 39 => aI w 7
  | 40 => aI w 46
  | 41 => aI w 46
  | 42 => aI w 46
  | 43 => aI w 4
  | 44 => aI w 60
  | 45 => aI w 6
  | 46 => aI w 96
  | 47 => aC w 7
  | 48 => aC w 6
  | 49 => aC w 6
  | 50 => aC w 2
  | 51 => aI w 7
  | 52 => aI w 4
  | 53 => aI w 20
  | _ => aI w 46
/-- a household's place: here, kept, mind -/
def HB (b : Nat) : Prop := b = 1 ∨ b = 10 ∨ b = 19
theorem HB.o {w : WD} {b : Nat} (h : HB b) : shp w b = oH w b := by rcases h with rfl | rfl | rfl <;> rfl
theorem HB.s {w : WD} {b : Nat} (h : HB b) : shp w (b + 1) = aI w 5 := by rcases h with rfl | rfl | rfl <;> rfl
theorem HB.p {w : WD} {b : Nat} (h : HB b) : shp w (b + 2) = aI w 7 := by rcases h with rfl | rfl | rfl <;> rfl
theorem HB.t {w : WD} {b : Nat} (h : HB b) : shp w (b + 3) = aI w 6 := by rcases h with rfl | rfl | rfl <;> rfl
theorem HB.e {w : WD} {b : Nat} (h : HB b) : shp w (b + 4) = fun _ => aO w b := by rcases h with rfl | rfl | rfl <;> rfl
theorem HB.r {w : WD} {b : Nat} (h : HB b) {i : Nat} (hi : i < 4) : shp w (b + 5 + i) = aI w 4 := by
  rcases h with rfl | rfl | rfl <;> (match i, hi with | 0, _ => rfl | 1, _ => rfl | 2, _ => rfl | 3, _ => rfl)
theorem HB.n {b : Nat} (h : HB b) {N k : Nat} (hN : 54 ≤ N) (hk : k ≤ 8) : b + k < N := by rcases h with rfl | rfl | rfl <;> omega
theorem HB.n0 {b : Nat} (h : HB b) {N : Nat} (hN : 54 ≤ N) : b < N := by rcases h with rfl | rfl | rfl <;> omega
theorem HB.nr {b : Nat} (h : HB b) {N i : Nat} (hN : 54 ≤ N) (hi : i < 4) : b + 5 + i < N := by rcases h with rfl | rfl | rfl <;> omega
abbrev SG : Type := Nat → Nat → Int32
def pw (w : WD) (σ : SG) : va_W := (List.range (wN w)).map fun k => (wA w k, shp w k (σ k))
theorem pw_at {w : WD} {σ : SG} {k : Nat} (h : k < wN w) : (pw w σ)[k]? = some (wA w k, shp w k (σ k)) := by simp [pw, h]
theorem pw_a {w : WD} {σ : SG} {k : Nat} {e : va_E} (h : k < wN w) (he : shp w k (σ k) = e) : (pw w σ)[k]? = some (wA w k, e) := by rw [pw_at h, he]
theorem pw_len (w : WD) (σ : SG) : (pw w σ).length = wN w := by simp [pw]
theorem pw_get {w : WD} {σ : SG} {k : Nat} {q : Nat × va_E} (h : (pw w σ)[k]? = some q) : k < wN w ∧ q = (wA w k, shp w k (σ k)) := by
  have hk : k < wN w := by
    have := (List.getElem?_eq_some_iff.mp h).1
    rwa [pw_len] at this
  rw [pw_at hk] at h
  exact ⟨hk, (Option.some.inj h).symm⟩
def upc (σ : SG) (k : Nat) (g : Nat → Int32) : SG := fun j => if j = k then g else σ j
theorem pw_set {w : WD} {σ : SG} {k : Nat} {g : Nat → Int32} : (pw w σ).set k (wA w k, shp w k g) = pw w (upc σ k g) := by
  apply List.ext_getElem?
  intro i
  rw [List.getElem?_set, pw_len]
  by_cases h : k = i
  · subst h
    by_cases hk : k < wN w
    · rw [if_pos rfl, if_pos hk, pw_at hk]; simp [upc]
    · rw [if_pos rfl, if_neg hk]; simp [pw, hk]
  · rw [if_neg h]
    by_cases hi : i < wN w
    · rw [pw_at hi, pw_at hi]
      have h2 : ¬ i = k := fun q => h q.symm
      simp [upc, h2]
    · simp [pw, hi]
theorem pw_st {w : WD} {σ : SG} {k : Nat} {g : Nat → Int32} {e : va_E} (he : shp w k g = e) : (pw w σ).set k (wA w k, e) = pw w (upc σ k g) := by rw [← he]; exact pw_set
/-- one number of one cell -/
def up (σ : SG) (k j : Nat) (v : Int32) : SG := upc σ k (upd (σ k) j v)
theorem up_at (σ : SG) (k j : Nat) (v : Int32) (k' j' : Nat) : up σ k j v k' j' = if k' = k ∧ j' = j then v else σ k' j' := by
  unfold up upc upd
  by_cases h : k' = k
  · subst h; by_cases h2 : j' = j <;> simp [h2]
  · simp [h]
theorem up_same (σ : SG) (k j : Nat) (v : Int32) : up σ k j v k j = v := by simp [up_at]
theorem up_other {σ : SG} {k j : Nat} {v : Int32} {k' : Nat} (h : k' ≠ k) : up σ k j v k' = σ k' := by funext j'; simp [up_at, h]
theorem up_elem {σ : SG} {k j : Nat} {v : Int32} {j' : Nat} (h : j' ≠ j) : up σ k j v k j' = σ k j' := by simp [up_at, h]
theorem upc_same (σ : SG) (k : Nat) (g : Nat → Int32) : upc σ k g k = g := if_pos rfl
theorem upc_other {σ : SG} {k : Nat} {g : Nat → Int32} {k' : Nat} (h : k' ≠ k) : upc σ k g k' = σ k' := if_neg h
/-- the cells stand apart, and lie in A -/
def pj (w : WD) (A : Nat → Prop) : Prop := (∀ i j : Nat, i < wN w → j < wN w → wA w i = wA w j → i = j) ∧ ∀ k : Nat, k < wN w → A (wA w k)
theorem pj.D {w : WD} {A : Nat → Prop} (h : pj w A) {σ : SG} : va_D A (pw w σ) := by
  refine ⟨fun i j p q hi hj hpq => ?_, fun k q hk => ?_⟩
  · obtain ⟨h1, rfl⟩ := pw_get hi
    obtain ⟨h2, rfl⟩ := pw_get hj
    exact h.1 i j h1 h2 hpq
  · obtain ⟨h1, rfl⟩ := pw_get hk
    exact h.2 k h1
/-- which cells the method may change -/
def pA (w : WD) (sz : Nat) : Nat → Prop := fun q => (∃ k : Nat, k < wN w ∧ q = wA w k) ∨ sz ≤ q
theorem pA_eq (w : WD) (σ : SG) (sz : Nat) : va_A (pw w σ) sz = pA w sz := by
  funext q
  apply propext
  constructor
  · rintro (⟨k, e, h⟩ | h)
    · obtain ⟨h1, h2⟩ := pw_get h
      exact Or.inl ⟨k, h1, (congrArg Prod.fst h2)⟩
    · exact Or.inr h
  · rintro (⟨k, h1, rfl⟩ | h)
    · exact Or.inl ⟨k, _, pw_at h1⟩
    · exact Or.inr h
abbrev tyw (w : WD) : List (ClassId × FieldType) := [(wI w, .int), (wC w, .char), (wO w, .array .int)]
/-! what stands outside the world and never changes: two rows of ints, the eight texts, the nest's words -/
def mosF (j : Nat) : Int32 := [30, 9, 9, 9, 9, 5].getD j 0
def thrF (j : Nat) : Int32 := [1, 3, 9, 27].getD j 0
def txLen : List Nat := [0, 6, 4, 8, 2, 1, 6, 6]
def txByt : List (List Int32) := [[], [69, 57, 57, 57, 63, 59], [57, 57, 57, 59], [87, 87, 87, 87, 87, 87, 87, 59], [72, 59], [59], [101, 102, 99, 112, 104, 97], [111, 110, 109, 116, 98, 115]]
def txKey : List (Nat × String) := [(27, ""), (54, "E999?;"), (56, "999;"), (58, "WWWWWWW;"), (60, "H;"), (62, ";"), (64, "efcpha"), (69, "onmtbs")]
def nestM1 : Cond := .methodLinkNest RX1 42 yX4_within RX4
def nestM2 : Cond := .methodLinkNest RX1 46 yX4_isAge RX4
def nestF1 : Cond := .fieldLinkNest RX1 50 RX4 "MOST_OF_SETTING" "[I" RX4
def ST (w : WD) (A : Nat → Prop) (U : State) (H : Heap) : Prop :=
  (va_Z RX4 "MOST_OF_SETTING" "[I" (.ref w.2.2.2.2.1.1) A U H ∧ va_T .int w.2.2.2.2.1.1 6 (fun j => .int (mosF j)) A U H)
  ∧ (va_Z RX4 "THREES" "[I" (.ref w.2.2.2.2.1.2) A U H ∧ va_T .int w.2.2.2.2.1.2 4 (fun j => .int (thrF j)) A U H)
  ∧ (vk_S 8 txLen txByt w.2.2.2.2.2.1 w.2.2.2.2.2.2 A U H ∧ (∀ i : Nat, i < 8 → vk_R RX2 (txKey.getD i (0, "")).1 (txKey.getD i (0, "")).2 (w.2.2.2.2.2.1 i) U) ∧ va_Z "java/lang/String" "COMPACT_STRINGS" "Z" (.int 1) A U H)
  ∧ va_Nw nestM1 U ∧ va_Nw nestM2 U ∧ va_Nw nestF1 U
theorem ST.go {w : WD} {A B : Nat → Prop} {s U : State} {H : Heap} (h : ST w A s s.heap) (hW : s.WarmedH U.vm) (hq : ∀ a : Nat, a < s.heap.size → ¬ A a → H[a]? = s.heap[a]?) (hB : ∀ q, B q → A q) : ST w B U H := by
  obtain ⟨⟨a1, a2⟩, ⟨b1, b2⟩, ⟨c1, c2, c3⟩, d1, d2, d3⟩ := h
  exact ⟨⟨((a1.kept hq).narrow hB).moved hW.alike, ((a2.kept hq).narrow hB).moved hW.alike⟩, ⟨((b1.kept hq).narrow hB).moved hW.alike, ((b2.kept hq).narrow hB).moved hW.alike⟩, ⟨((c1.kept hq).narrow hB).moved hW.alike, fun i hi => (c2 i hi).warm hW, ((c3.kept hq).narrow hB).moved hW.alike⟩, va_Nw.warmM hW d1, va_Nw.warmM hW d2, va_Nw.warmF hW d3⟩
theorem ST.same {w : WD} {A : Nat → Prop} {s U : State} {H : Heap} (h : ST w A s H) (hv : U.vm = s.vm) : ST w A U H := by
  have al : s.vm.Alike U.vm := by rw [hv]; exact Vm.Alike.refl s.vm
  obtain ⟨⟨a1, a2⟩, ⟨b1, b2⟩, ⟨c1, c2, c3⟩, d1, d2, d3⟩ := h
  exact ⟨⟨a1.moved al, a2.moved al⟩, ⟨b1.moved al, b2.moved al⟩, ⟨c1.moved al, fun i hi => (c2 i hi).same hv, c3.moved al⟩, va_Nw.same rfl hv.symm d1, va_Nw.same rfl hv.symm d2, va_Nw.same rfl hv.symm d3⟩
/-! ===== contracts ===== -/
abbrev rmv (d mc ms : Nat) : Room := { frames := d, cells := mc, slots := ms, locals := 64 * d }
def Pin (w : WD) (σ : SG) (sz : Nat) : State → Prop := fun U => U.heap.size = sz ∧ va_P (wD w) vwCl (pw w σ) U.heap ∧ va_K (wD w) vwCl (tyw w) U ∧ pj w (fun _ => True) ∧ ST w (pA w sz) U U.heap
def Pout (w : WD) : SG → State → Prop := fun σ t => va_P (wD w) vwCl (pw w σ) t.heap
theorem Pin.blind {w : WD} {σ : SG} {sz : Nat} {As : List Value} : FrameBlind (va_Pc As (Pin w σ sz)) := by
  intro a U g mk h
  obtain ⟨h0, h1, h2, h3, h4, h5⟩ := h
  exact ⟨h0, h1, h2, va_K.moved (u := U) (U := U.calling g mk a) (Vm.Alike.refl U.vm) h3, h4, ST.same h5 rfl⟩
/-- an answer that is an int (boolean, char) -/
def CtI (l : Launch) (w : WD) (y : MethodName) (cc : ByteArray) (maxL : Nat) (ret : Option FieldType) (d mc ms : Nat) (As : List Value) (σ : SG) (post : Int32 → SG → Prop) : Prop :=
  ∀ sz : Nat, Met l y (.code y cc maxL ret :: gt) (rmv d mc ms) (va_Pc As (Pin w σ sz)) (va_Qi post (Pout w) (pA w sz)) mc ms (pA w sz)
def CtV (l : Launch) (w : WD) (y : MethodName) (cc : ByteArray) (maxL : Nat) (d mc ms : Nat) (As : List Value) (σ : SG) (post : SG → Prop) : Prop :=
  ∀ sz : Nat, Met l y (.code y cc maxL none :: gt) (rmv d mc ms) (va_Pc As (Pin w σ sz)) (va_Qv post (Pout w) (pA w sz)) mc ms (pA w sz)
def CtL (l : Launch) (w : WD) (y : MethodName) (cc : ByteArray) (maxL : Nat) (d mc ms : Nat) (As : List Value) (σ : SG) (post : Int64 → SG → Prop) : Prop :=
  ∀ sz : Nat, Met l y (.code y cc maxL (some .long) :: gt) (rmv d mc ms) (va_Pc As (Pin w σ sz)) (va_Ql post (Pout w) (pA w sz)) mc ms (pA w sz)
def CtR (l : Launch) (w : WD) (y : MethodName) (cc : ByteArray) (maxL : Nat) (ret : Option FieldType) (d mc ms : Nat) (As : List Value) (σ : SG) (post : SG → Nat → Prop) : Prop :=
  ∀ sz : Nat, Met l y (.code y cc maxL ret :: gt) (rmv d mc ms) (va_Pc As (Pin w σ sz)) (va_Qr (fun _ : SG => True) (fun σ' a t => post σ' a ∧ Pout w σ' t) (pA w sz)) mc ms (pA w sz)
/-! ===== the judgement ===== -/
abbrev KT : Type := (Program × Env × Room × State × MethodId × Array Value × List Frame × Method × Code) × (Nat × Nat × Nat) × (State → Prop) × (Nat → Prop)
def G (l : Launch) (w : WD) : KT → Nat → List (Nat × Value) → List Value → SG → Prop
  | ((p, e, R, s, m, args, below, meth, c), (nL, cells, slots), Q, A), pc, lv, st, σ => ∀ (H : Heap) (ls : Array Slot) (locs : List Loc), lv_has ls nL lv → va_P (wD w) vwCl (pw w σ) H → va_S A s.heap H locs → W p l e R s m args below meth c H locs cells slots Q (F0 m pc ls st)
/-- what holds all along a method -/
def OK (l : Launch) (w : WD) : KT → ByteArray → Nat → String → Nat → Nat → Nat → Prop
  | ((p, _, R, s, m, args, _, meth, c), (nL, cells, slots), _, A), cc, nl, own, d, mc, ms => CallFix p m c cc nL s args gt own ∧ va_K (wD w) vwCl (tyw w) s ∧ pj w A ∧ (∀ q, s.heap.size ≤ q → A q) ∧ ST w A s s.heap ∧ meth.locks = false ∧ R = rmv d mc ms ∧ nL = nl ∧ cells ≤ mc ∧ slots ≤ ms
def RI (w : WD) : KT → FieldType → (Int32 → SG → Prop) → Prop
  | ((_, _, _, s, _, args, below, meth, _), (_, cells, slots), Q, A), ty, post => meth.sig.returnType = some ty ∧ Q = MQ below (va_Qi post (Pout w) A) args s cells slots A
def RV (w : WD) : KT → (SG → Prop) → Prop
  | ((_, _, _, s, _, args, below, meth, _), (_, cells, slots), Q, A), post => meth.sig.returnType = none ∧ Q = MQ below (va_Qv post (Pout w) A) args s cells slots A
def RJ (w : WD) : KT → (Int64 → SG → Prop) → Prop
  | ((_, _, _, s, _, args, below, meth, _), (_, cells, slots), Q, A), post => meth.sig.returnType = some .long ∧ Q = MQ below (va_Ql post (Pout w) A) args s cells slots A
end
section
/-! ===== entry ===== -/
theorem lv_has_swap {ls : Array Slot} {nL : Nat} {lv lv' : List (Nat × Value)} (h : lv_has ls nL lv) (hs : ∀ q ∈ lv', q ∈ lv) : lv_has ls nL lv' := ⟨h.1, h.2.1, fun q hq => h.2.2 q (hs q hq)⟩
theorem pA_of {w : WD} {sz : Nat} (h : pj w (fun _ => True)) : pj w (pA w sz) := ⟨h.1, fun k hk => Or.inl ⟨k, hk, rfl⟩⟩
theorem CtI.mk {l : Launch} {w : WD} {y : MethodName} {cc : ByteArray} {maxL : Nat} {ty : FieldType} {d mc ms : Nat} {As : List Value} {σ : SG} {post : Int32 → SG → Prop} (hy : plainName y.cls = true) (hA : (lg_sl As).length ≤ maxL)
    (body : ∀ (K : KT), OK l w K cc maxL y.cls d mc ms → (∀ K' : KT, K'.1 = K.1 → K'.2.2 = K.2.2 → K'.2.1.2 = (mc, ms) → RI w K' ty post) → K.2.1.2 = (0, 0) → G l w K 0 (lv_args 0 As) [] σ) : CtI l w y cc maxL (some ty) d mc ms As σ post := by
  intro sz
  refine Met.ofW (cc := cc) (maxL := maxL) (ret := some ty) hy rfl ?_
  intro p e s m args below meth c s₁ B hml hv
  obtain ⟨rfl, hsz, hP, hK, hj, hst⟩ := hv
  subst hsz
  have hts : ∀ x ∈ gt, x.before As.toArray s = true := fun x hx => atoms_spec B.pre x (List.mem_cons_of_mem _ hx)
  have h := body ((p, e, rmv d mc ms, s, m, As.toArray, below, meth, c), (maxL, 0, 0), MQ below (va_Qi post (Pout w) (pA w s.heap.size)) As.toArray s mc ms (pA w s.heap.size), pA w s.heap.size)
    ⟨⟨B.exec, B.bytes, hml, findClass_of_methodNamed B.named, hts⟩, hK, pA_of hj, fun q hq => Or.inr hq, hst, B.notSynchronized, rfl, rfl, Nat.zero_le _, Nat.zero_le _⟩
    (by
      rintro ⟨⟨p', e', R', s', m', a', b', me', c'⟩, ⟨n', ce', sl'⟩, Q', A'⟩ h1 h2 h3
      cases h1; cases h2; cases h3
      exact ⟨B.returns, rfl⟩) rfl
  have hl := lv_entry As (n := maxL) hA
  rw [lg_entry_eq]
  exact h s.heap _ [] hl hP va_S.rf
theorem CtV.mk {l : Launch} {w : WD} {y : MethodName} {cc : ByteArray} {maxL : Nat} {d mc ms : Nat} {As : List Value} {σ : SG} {post : SG → Prop} (hy : plainName y.cls = true) (hA : (lg_sl As).length ≤ maxL)
    (body : ∀ (K : KT), OK l w K cc maxL y.cls d mc ms → (∀ K' : KT, K'.1 = K.1 → K'.2.2 = K.2.2 → K'.2.1.2 = (mc, ms) → RV w K' post) → K.2.1.2 = (0, 0) → G l w K 0 (lv_args 0 As) [] σ) : CtV l w y cc maxL d mc ms As σ post := by
  intro sz
  refine Met.ofW (cc := cc) (maxL := maxL) (ret := none) hy rfl ?_
  intro p e s m args below meth c s₁ B hml hv
  obtain ⟨rfl, hsz, hP, hK, hj, hst⟩ := hv
  subst hsz
  have hts : ∀ x ∈ gt, x.before As.toArray s = true := fun x hx => atoms_spec B.pre x (List.mem_cons_of_mem _ hx)
  have h := body ((p, e, rmv d mc ms, s, m, As.toArray, below, meth, c), (maxL, 0, 0), MQ below (va_Qv post (Pout w) (pA w s.heap.size)) As.toArray s mc ms (pA w s.heap.size), pA w s.heap.size)
    ⟨⟨B.exec, B.bytes, hml, findClass_of_methodNamed B.named, hts⟩, hK, pA_of hj, fun q hq => Or.inr hq, hst, B.notSynchronized, rfl, rfl, Nat.zero_le _, Nat.zero_le _⟩
    (by
      rintro ⟨⟨p', e', R', s', m', a', b', me', c'⟩, ⟨n', ce', sl'⟩, Q', A'⟩ h1 h2 h3
      cases h1; cases h2; cases h3
      exact ⟨B.returns, rfl⟩) rfl
  have hl := lv_entry As (n := maxL) hA
  rw [lg_entry_eq]
  exact h s.heap _ [] hl hP va_S.rf
theorem CtL.mk {l : Launch} {w : WD} {y : MethodName} {cc : ByteArray} {maxL : Nat} {d mc ms : Nat} {As : List Value} {σ : SG} {post : Int64 → SG → Prop} (hy : plainName y.cls = true) (hA : (lg_sl As).length ≤ maxL)
    (body : ∀ (K : KT), OK l w K cc maxL y.cls d mc ms → (∀ K' : KT, K'.1 = K.1 → K'.2.2 = K.2.2 → K'.2.1.2 = (mc, ms) → RJ w K' post) → K.2.1.2 = (0, 0) → G l w K 0 (lv_args 0 As) [] σ) : CtL l w y cc maxL d mc ms As σ post := by
  intro sz
  refine Met.ofW (cc := cc) (maxL := maxL) (ret := some .long) hy rfl ?_
  intro p e s m args below meth c s₁ B hml hv
  obtain ⟨rfl, hsz, hP, hK, hj, hst⟩ := hv
  subst hsz
  have hts : ∀ x ∈ gt, x.before As.toArray s = true := fun x hx => atoms_spec B.pre x (List.mem_cons_of_mem _ hx)
  have h := body ((p, e, rmv d mc ms, s, m, As.toArray, below, meth, c), (maxL, 0, 0), MQ below (va_Ql post (Pout w) (pA w s.heap.size)) As.toArray s mc ms (pA w s.heap.size), pA w s.heap.size)
    ⟨⟨B.exec, B.bytes, hml, findClass_of_methodNamed B.named, hts⟩, hK, pA_of hj, fun q hq => Or.inr hq, hst, B.notSynchronized, rfl, rfl, Nat.zero_le _, Nat.zero_le _⟩
    (by
      rintro ⟨⟨p', e', R', s', m', a', b', me', c'⟩, ⟨n', ce', sl'⟩, Q', A'⟩ h1 h2 h3
      cases h1; cases h2; cases h3
      exact ⟨B.returns, rfl⟩) rfl
  have hl := lv_entry As (n := maxL) hA
  rw [lg_entry_eq]
  exact h s.heap _ [] hl hP va_S.rf
/-- where nothing is made the answer's row needs no second K -/
theorem RI.of {w : WD} {K : KT} {ty : FieldType} {post : Int32 → SG → Prop} (h : ∀ K' : KT, K'.1 = K.1 → K'.2.2 = K.2.2 → K'.2.1.2 = (0, 0) → RI w K' ty post) (h0 : K.2.1.2 = (0, 0)) : RI w K ty post := h K rfl rfl h0
theorem RV.of {w : WD} {K : KT} {post : SG → Prop} (h : ∀ K' : KT, K'.1 = K.1 → K'.2.2 = K.2.2 → K'.2.1.2 = (0, 0) → RV w K' post) (h0 : K.2.1.2 = (0, 0)) : RV w K post := h K rfl rfl h0
theorem RJ.of {w : WD} {K : KT} {post : Int64 → SG → Prop} (h : ∀ K' : KT, K'.1 = K.1 → K'.2.2 = K.2.2 → K'.2.1.2 = (0, 0) → RJ w K' post) (h0 : K.2.1.2 = (0, 0)) : RJ w K post := h K rfl rfl h0
/-! ===== locals ===== -/
def lvg (lv : List (Nat × Value)) (i : Nat) : Option Value := (lv.find? (fun q => q.1 == i)).map (fun q => q.2)
theorem lvg_at {ls : Array Slot} {nL : Nat} {lv : List (Nat × Value)} {i : Nat} {v : Value} (h : lv_has ls nL lv) (hg : lvg lv i = some v) : ls[i]? = some (.val v) := by
  unfold lvg at hg
  cases hf : lv.find? (fun q => q.1 == i) with
  | none => rw [hf] at hg; cases hg
  | some q =>
    rw [hf] at hg
    have h1 := List.find?_some hf
    have h2 := List.mem_of_find?_eq_some hf
    have h3 := h.2.2 q h2
    have h4 : q.1 = i := by simpa using h1
    have h5 : q.2 = v := by simpa using hg
    rw [h4, h5] at h3
    exact h3
theorem lvg_mem {lv : List (Nat × Value)} {i : Nat} {v : Value} (hg : lvg lv i = some v) : ∃ k : Nat, lv[k]? = some (i, v) := by
  unfold lvg at hg
  cases hf : lv.find? (fun q => q.1 == i) with
  | none => rw [hf] at hg; cases hg
  | some q =>
    rw [hf] at hg
    have h1 := List.find?_some hf
    have h2 := List.mem_of_find?_eq_some hf
    have h4 : q.1 = i := by simpa using h1
    have h5 : q.2 = v := by simpa using hg
    obtain ⟨k, hk⟩ := List.getElem?_of_mem h2
    exact ⟨k, by rw [hk]; congr 1; exact Prod.ext h4 h5⟩
abbrev lvs (lv : List (Nat × Value)) (i : Nat) (v : Value) : List (Nat × Value) := (i, v) :: lv.filter (fun q => !(q.1 == i) && !(q.1 + 1 == i && q.2.category == 2))
abbrev lvs2 (lv : List (Nat × Value)) (i : Nat) (v : Value) : List (Nat × Value) := (i, v) :: lv.filter (fun q => !(q.1 == i) && (!(q.1 == i + 1) && !(q.1 + 1 == i && q.2.category == 2)))
section GR
variable {l : Launch} {w : WD} {K : KT} {cc : ByteArray} {own : String} {nl d mc ms pc : Nat} {lv : List (Nat × Value)} {st : List Value} {σ : SG}
theorem g_pc {q : Nat} (h : pc = q) (k : G l w K q lv st σ) : G l w K pc lv st σ := h ▸ k
theorem g_lv {lv' : List (Nat × Value)} (hs : ∀ q ∈ lv', q ∈ lv) (k : G l w K pc lv' st σ) : G l w K pc lv st σ := by
  obtain ⟨⟨p, e, R, s, m, args, below, meth, c⟩, ⟨nL, cells, slots⟩, Q, A⟩ := K
  intro H ls locs hl hP hS
  exact k H ls locs (lv_has_swap hl hs) hP hS

theorem g_iconst {n : Int} {v : Int32} (C : OK l w K cc nl own d mc ms) (hd : decode cc pc = .ok (.iconst n, 1)) (hv : Int32.ofInt n = v) (k : G l w K (pc + 1) lv (.int v :: st) σ) : G l w K pc lv (st) σ := by
  obtain ⟨⟨p, e, R, s, m, args, below, meth, c⟩, ⟨nL, cells, slots⟩, Q, A⟩ := K
  obtain ⟨⟨hx, hb, hml, hown, hts⟩, hK, hj, hA, hST, hlk, hR, hn, hmc, hms⟩ := C
  intro H ls locs hl hP hS
  exact lv_iconst hx hb hd hv (k H ls locs hl hP hS)
theorem g_bipush {n : Int} {v : Int32} (C : OK l w K cc nl own d mc ms) (hd : decode cc pc = .ok (.bipush n, 2)) (hv : (Int8.ofInt n).toInt32 = v) (k : G l w K (pc + 2) lv (.int v :: st) σ) : G l w K pc lv (st) σ := by
  obtain ⟨⟨p, e, R, s, m, args, below, meth, c⟩, ⟨nL, cells, slots⟩, Q, A⟩ := K
  obtain ⟨⟨hx, hb, hml, hown, hts⟩, hK, hj, hA, hST, hlk, hR, hn, hmc, hms⟩ := C
  intro H ls locs hl hP hS
  exact lv_bipush hx hb hd hv (k H ls locs hl hP hS)
theorem g_sipush {n : Int} {v : Int32} (C : OK l w K cc nl own d mc ms) (hd : decode cc pc = .ok (.sipush n, 3)) (hv : (Int16.ofInt n).toInt32 = v) (k : G l w K (pc + 3) lv (.int v :: st) σ) : G l w K pc lv (st) σ := by
  obtain ⟨⟨p, e, R, s, m, args, below, meth, c⟩, ⟨nL, cells, slots⟩, Q, A⟩ := K
  obtain ⟨⟨hx, hb, hml, hown, hts⟩, hK, hj, hA, hST, hlk, hR, hn, hmc, hms⟩ := C
  intro H ls locs hl hP hS
  exact lv_sipush hx hb hd hv (k H ls locs hl hP hS)
theorem g_ldc {idx : Nat} {v : Int32} (C : OK l w K cc nl own d mc ms) (hc : Cond.constant own idx v ∈ gt) (hd : decode cc pc = .ok (.ldc idx, 2)) (k : G l w K (pc + 2) lv (.int v :: st) σ) : G l w K pc lv (st) σ := by
  obtain ⟨⟨p, e, R, s, m, args, below, meth, c⟩, ⟨nL, cells, slots⟩, Q, A⟩ := K
  obtain ⟨⟨hx, hb, hml, hown, hts⟩, hK, hj, hA, hST, hlk, hR, hn, hmc, hms⟩ := C
  intro H ls locs hl hP hS
  exact lv_ldc hx hb hown (hts _ hc) hd (k H ls locs hl hP hS)
theorem g_ldc2 {idx : Nat} {v : Int64} (C : OK l w K cc nl own d mc ms) (hc : Cond.constantLong own idx v ∈ gt) (hd : decode cc pc = .ok (.ldc2_w idx, 3)) (k : G l w K (pc + 3) lv (.long v :: st) σ) : G l w K pc lv (st) σ := by
  obtain ⟨⟨p, e, R, s, m, args, below, meth, c⟩, ⟨nL, cells, slots⟩, Q, A⟩ := K
  obtain ⟨⟨hx, hb, hml, hown, hts⟩, hK, hj, hA, hST, hlk, hR, hn, hmc, hms⟩ := C
  intro H ls locs hl hP hS
  exact lv_ldc2 hx hb hown (hts _ hc) hd (k H ls locs hl hP hS)
theorem g_lconst {n : Fin 2} {v : Int64} (C : OK l w K cc nl own d mc ms) (hd : decode cc pc = .ok (.lconst n, 1)) (hv : Int64.ofNat (n : Nat) = v) (k : G l w K (pc + 1) lv (.long v :: st) σ) : G l w K pc lv (st) σ := by
  obtain ⟨⟨p, e, R, s, m, args, below, meth, c⟩, ⟨nL, cells, slots⟩, Q, A⟩ := K
  obtain ⟨⟨hx, hb, hml, hown, hts⟩, hK, hj, hA, hST, hlk, hR, hn, hmc, hms⟩ := C
  intro H ls locs hl hP hS
  exact lv_lconst hx hb hd hv (k H ls locs hl hP hS)
theorem g_iload_n {k0 : Fin 4} {i : Nat} {x : Int32} (C : OK l w K cc nl own d mc ms) (hd : decode cc pc = .ok (.iload_n k0, 1)) (hi : (k0 : Nat) = i) (hg : lvg lv i = some (.int x)) (k : G l w K (pc + 1) lv (.int x :: st) σ) : G l w K pc lv (st) σ := by
  obtain ⟨⟨p, e, R, s, m, args, below, meth, c⟩, ⟨nL, cells, slots⟩, Q, A⟩ := K
  obtain ⟨⟨hx, hb, hml, hown, hts⟩, hK, hj, hA, hST, hlk, hR, hn, hmc, hms⟩ := C
  intro H ls locs hl hP hS
  exact lv_iload_n hx hb hd hi (lvg_at hl hg) (k H ls locs hl hP hS)
theorem g_iload {i : Nat} {x : Int32} (C : OK l w K cc nl own d mc ms) (hd : decode cc pc = .ok (.iload i, 2)) (hg : lvg lv i = some (.int x)) (k : G l w K (pc + 2) lv (.int x :: st) σ) : G l w K pc lv (st) σ := by
  obtain ⟨⟨p, e, R, s, m, args, below, meth, c⟩, ⟨nL, cells, slots⟩, Q, A⟩ := K
  obtain ⟨⟨hx, hb, hml, hown, hts⟩, hK, hj, hA, hST, hlk, hR, hn, hmc, hms⟩ := C
  intro H ls locs hl hP hS
  exact lv_iload hx hb hd (lvg_at hl hg) (k H ls locs hl hP hS)
theorem g_istore_n {k0 : Fin 4} {i : Nat} {x : Int32} {lv' : List (Nat × Value)} (C : OK l w K cc nl own d mc ms) (hd : decode cc pc = .ok (.istore_n k0, 1)) (hi : (k0 : Nat) = i) (hb1 : i < nl) (hg : lvs lv i (.int x) = lv') (k : G l w K (pc + 1) lv' (st) σ) : G l w K pc lv (.int x :: st) σ := by
  obtain ⟨⟨p, e, R, s, m, args, below, meth, c⟩, ⟨nL, cells, slots⟩, Q, A⟩ := K
  obtain ⟨⟨hx, hb, hml, hown, hts⟩, hK, hj, hA, hST, hlk, hR, hn, hmc, hms⟩ := C
  intro H ls locs hl hP hS
  exact lv_istore_n hx hb hd hi hl (by rw [hn]; exact hb1) hg (fun ls hl => k H ls locs hl hP hS)
theorem g_istore {i : Nat} {x : Int32} {lv' : List (Nat × Value)} (C : OK l w K cc nl own d mc ms) (hd : decode cc pc = .ok (.istore i, 2)) (hb1 : i < nl) (hg : lvs lv i (.int x) = lv') (k : G l w K (pc + 2) lv' (st) σ) : G l w K pc lv (.int x :: st) σ := by
  obtain ⟨⟨p, e, R, s, m, args, below, meth, c⟩, ⟨nL, cells, slots⟩, Q, A⟩ := K
  obtain ⟨⟨hx, hb, hml, hown, hts⟩, hK, hj, hA, hST, hlk, hR, hn, hmc, hms⟩ := C
  intro H ls locs hl hP hS
  exact lv_istore hx hb hd hl (by rw [hn]; exact hb1) hg (fun ls hl => k H ls locs hl hP hS)
theorem g_lload_n {k0 : Fin 4} {i : Nat} {x : Int64} (C : OK l w K cc nl own d mc ms) (hd : decode cc pc = .ok (.lload_n k0, 1)) (hi : (k0 : Nat) = i) (hg : lvg lv i = some (.long x)) (k : G l w K (pc + 1) lv (.long x :: st) σ) : G l w K pc lv (st) σ := by
  obtain ⟨⟨p, e, R, s, m, args, below, meth, c⟩, ⟨nL, cells, slots⟩, Q, A⟩ := K
  obtain ⟨⟨hx, hb, hml, hown, hts⟩, hK, hj, hA, hST, hlk, hR, hn, hmc, hms⟩ := C
  intro H ls locs hl hP hS
  exact lv_lload_n hx hb hd hi (lvg_at hl hg) (k H ls locs hl hP hS)
theorem g_lload {i : Nat} {x : Int64} (C : OK l w K cc nl own d mc ms) (hd : decode cc pc = .ok (.lload i, 2)) (hg : lvg lv i = some (.long x)) (k : G l w K (pc + 2) lv (.long x :: st) σ) : G l w K pc lv (st) σ := by
  obtain ⟨⟨p, e, R, s, m, args, below, meth, c⟩, ⟨nL, cells, slots⟩, Q, A⟩ := K
  obtain ⟨⟨hx, hb, hml, hown, hts⟩, hK, hj, hA, hST, hlk, hR, hn, hmc, hms⟩ := C
  intro H ls locs hl hP hS
  exact lv_lload hx hb hd (lvg_at hl hg) (k H ls locs hl hP hS)
theorem g_lstore_n {k0 : Fin 4} {i : Nat} {x : Int64} {lv' : List (Nat × Value)} (C : OK l w K cc nl own d mc ms) (hd : decode cc pc = .ok (.lstore_n k0, 1)) (hi : (k0 : Nat) = i) (hb1 : i + 1 < nl) (hg : lvs2 lv i (.long x) = lv') (k : G l w K (pc + 1) lv' (st) σ) : G l w K pc lv (.long x :: st) σ := by
  obtain ⟨⟨p, e, R, s, m, args, below, meth, c⟩, ⟨nL, cells, slots⟩, Q, A⟩ := K
  obtain ⟨⟨hx, hb, hml, hown, hts⟩, hK, hj, hA, hST, hlk, hR, hn, hmc, hms⟩ := C
  intro H ls locs hl hP hS
  exact lv_lstore_n hx hb hd hi hl (by rw [hn]; exact hb1) hg (fun ls hl => k H ls locs hl hP hS)
theorem g_lstore {i : Nat} {x : Int64} {lv' : List (Nat × Value)} (C : OK l w K cc nl own d mc ms) (hd : decode cc pc = .ok (.lstore i, 2)) (hb1 : i + 1 < nl) (hg : lvs2 lv i (.long x) = lv') (k : G l w K (pc + 2) lv' (st) σ) : G l w K pc lv (.long x :: st) σ := by
  obtain ⟨⟨p, e, R, s, m, args, below, meth, c⟩, ⟨nL, cells, slots⟩, Q, A⟩ := K
  obtain ⟨⟨hx, hb, hml, hown, hts⟩, hK, hj, hA, hST, hlk, hR, hn, hmc, hms⟩ := C
  intro H ls locs hl hP hS
  exact lv_lstore hx hb hd hl (by rw [hn]; exact hb1) hg (fun ls hl => k H ls locs hl hP hS)
theorem g_aload_n {k0 : Fin 4} {i : Nat} {x : Nat} (C : OK l w K cc nl own d mc ms) (hd : decode cc pc = .ok (.aload_n k0, 1)) (hi : (k0 : Nat) = i) (hg : lvg lv i = some (.ref x)) (k : G l w K (pc + 1) lv (.ref x :: st) σ) : G l w K pc lv (st) σ := by
  obtain ⟨⟨p, e, R, s, m, args, below, meth, c⟩, ⟨nL, cells, slots⟩, Q, A⟩ := K
  obtain ⟨⟨hx, hb, hml, hown, hts⟩, hK, hj, hA, hST, hlk, hR, hn, hmc, hms⟩ := C
  intro H ls locs hl hP hS
  exact lv_aload_n hx hb hd hi (lvg_at hl hg) (k H ls locs hl hP hS)
theorem g_aload {i : Nat} {x : Nat} (C : OK l w K cc nl own d mc ms) (hd : decode cc pc = .ok (.aload i, 2)) (hg : lvg lv i = some (.ref x)) (k : G l w K (pc + 2) lv (.ref x :: st) σ) : G l w K pc lv (st) σ := by
  obtain ⟨⟨p, e, R, s, m, args, below, meth, c⟩, ⟨nL, cells, slots⟩, Q, A⟩ := K
  obtain ⟨⟨hx, hb, hml, hown, hts⟩, hK, hj, hA, hST, hlk, hR, hn, hmc, hms⟩ := C
  intro H ls locs hl hP hS
  exact lv_aload hx hb hd (lvg_at hl hg) (k H ls locs hl hP hS)
theorem g_astore_n {k0 : Fin 4} {i : Nat} {x : Nat} {lv' : List (Nat × Value)} (C : OK l w K cc nl own d mc ms) (hd : decode cc pc = .ok (.astore_n k0, 1)) (hi : (k0 : Nat) = i) (hb1 : i < nl) (hg : lvs lv i (.ref x) = lv') (k : G l w K (pc + 1) lv' (st) σ) : G l w K pc lv (.ref x :: st) σ := by
  obtain ⟨⟨p, e, R, s, m, args, below, meth, c⟩, ⟨nL, cells, slots⟩, Q, A⟩ := K
  obtain ⟨⟨hx, hb, hml, hown, hts⟩, hK, hj, hA, hST, hlk, hR, hn, hmc, hms⟩ := C
  intro H ls locs hl hP hS
  exact lv_astore_n hx hb hd hi hl (by rw [hn]; exact hb1) hg (fun ls hl => k H ls locs hl hP hS)
theorem g_astore {i : Nat} {x : Nat} {lv' : List (Nat × Value)} (C : OK l w K cc nl own d mc ms) (hd : decode cc pc = .ok (.astore i, 2)) (hb1 : i < nl) (hg : lvs lv i (.ref x) = lv') (k : G l w K (pc + 2) lv' (st) σ) : G l w K pc lv (.ref x :: st) σ := by
  obtain ⟨⟨p, e, R, s, m, args, below, meth, c⟩, ⟨nL, cells, slots⟩, Q, A⟩ := K
  obtain ⟨⟨hx, hb, hml, hown, hts⟩, hK, hj, hA, hST, hlk, hR, hn, hmc, hms⟩ := C
  intro H ls locs hl hP hS
  exact lv_astore hx hb hd hl (by rw [hn]; exact hb1) hg (fun ls hl => k H ls locs hl hP hS)
theorem g_iinc {i : Nat} {n : Int} {x v : Int32} {lv' : List (Nat × Value)} (C : OK l w K cc nl own d mc ms) (hd : decode cc pc = .ok (.iinc i n, 3)) (hb1 : i < nl) (hk0 : lvg lv i = some (.int x)) (hv : x + Int32.ofInt n = v) (hg : lvs lv i (.int v) = lv') (k : G l w K (pc + 3) lv' (st) σ) : G l w K pc lv (st) σ := by
  obtain ⟨⟨p, e, R, s, m, args, below, meth, c⟩, ⟨nL, cells, slots⟩, Q, A⟩ := K
  obtain ⟨⟨hx, hb, hml, hown, hts⟩, hK, hj, hA, hST, hlk, hR, hn, hmc, hms⟩ := C
  intro H ls locs hl hP hS
  exact lv_iinc hx hb hd hl (k := (lvg_mem hk0).choose) (lvg_mem hk0).choose_spec hv (by rw [hn]; exact hb1) hg (fun ls hl => k H ls locs hl hP hS)
theorem g_iadd {x y : Int32} (C : OK l w K cc nl own d mc ms) (hd : decode cc pc = .ok (.iadd, 1)) (k : G l w K (pc + 1) lv (.int (x + y) :: st) σ) : G l w K pc lv (.int y :: .int x :: st) σ := by
  obtain ⟨⟨p, e, R, s, m, args, below, meth, c⟩, ⟨nL, cells, slots⟩, Q, A⟩ := K
  obtain ⟨⟨hx, hb, hml, hown, hts⟩, hK, hj, hA, hST, hlk, hR, hn, hmc, hms⟩ := C
  intro H ls locs hl hP hS
  exact lv_iadd hx hb hd (k H ls locs hl hP hS)
theorem g_isub {x y : Int32} (C : OK l w K cc nl own d mc ms) (hd : decode cc pc = .ok (.isub, 1)) (k : G l w K (pc + 1) lv (.int (x - y) :: st) σ) : G l w K pc lv (.int y :: .int x :: st) σ := by
  obtain ⟨⟨p, e, R, s, m, args, below, meth, c⟩, ⟨nL, cells, slots⟩, Q, A⟩ := K
  obtain ⟨⟨hx, hb, hml, hown, hts⟩, hK, hj, hA, hST, hlk, hR, hn, hmc, hms⟩ := C
  intro H ls locs hl hP hS
  exact lv_isub hx hb hd (k H ls locs hl hP hS)
theorem g_imul {x y : Int32} (C : OK l w K cc nl own d mc ms) (hd : decode cc pc = .ok (.imul, 1)) (k : G l w K (pc + 1) lv (.int (x * y) :: st) σ) : G l w K pc lv (.int y :: .int x :: st) σ := by
  obtain ⟨⟨p, e, R, s, m, args, below, meth, c⟩, ⟨nL, cells, slots⟩, Q, A⟩ := K
  obtain ⟨⟨hx, hb, hml, hown, hts⟩, hK, hj, hA, hST, hlk, hR, hn, hmc, hms⟩ := C
  intro H ls locs hl hP hS
  exact lv_imul hx hb hd (k H ls locs hl hP hS)
theorem g_iand {x y : Int32} (C : OK l w K cc nl own d mc ms) (hd : decode cc pc = .ok (.iand, 1)) (k : G l w K (pc + 1) lv (.int (x &&& y) :: st) σ) : G l w K pc lv (.int y :: .int x :: st) σ := by
  obtain ⟨⟨p, e, R, s, m, args, below, meth, c⟩, ⟨nL, cells, slots⟩, Q, A⟩ := K
  obtain ⟨⟨hx, hb, hml, hown, hts⟩, hK, hj, hA, hST, hlk, hR, hn, hmc, hms⟩ := C
  intro H ls locs hl hP hS
  exact lv_iand hx hb hd (k H ls locs hl hP hS)
theorem g_ior {x y : Int32} (C : OK l w K cc nl own d mc ms) (hd : decode cc pc = .ok (.ior, 1)) (k : G l w K (pc + 1) lv (.int (x ||| y) :: st) σ) : G l w K pc lv (.int y :: .int x :: st) σ := by
  obtain ⟨⟨p, e, R, s, m, args, below, meth, c⟩, ⟨nL, cells, slots⟩, Q, A⟩ := K
  obtain ⟨⟨hx, hb, hml, hown, hts⟩, hK, hj, hA, hST, hlk, hR, hn, hmc, hms⟩ := C
  intro H ls locs hl hP hS
  exact lv_ior hx hb hd (k H ls locs hl hP hS)
theorem g_ishl {x y : Int32} (C : OK l w K cc nl own d mc ms) (hd : decode cc pc = .ok (.ishl, 1)) (k : G l w K (pc + 1) lv (.int (x <<< (y &&& 31)) :: st) σ) : G l w K pc lv (.int y :: .int x :: st) σ := by
  obtain ⟨⟨p, e, R, s, m, args, below, meth, c⟩, ⟨nL, cells, slots⟩, Q, A⟩ := K
  obtain ⟨⟨hx, hb, hml, hown, hts⟩, hK, hj, hA, hST, hlk, hR, hn, hmc, hms⟩ := C
  intro H ls locs hl hP hS
  exact lv_ishl hx hb hd (k H ls locs hl hP hS)
theorem g_ishr {x y : Int32} (C : OK l w K cc nl own d mc ms) (hd : decode cc pc = .ok (.ishr, 1)) (k : G l w K (pc + 1) lv (.int (x >>> (y &&& 31)) :: st) σ) : G l w K pc lv (.int y :: .int x :: st) σ := by
  obtain ⟨⟨p, e, R, s, m, args, below, meth, c⟩, ⟨nL, cells, slots⟩, Q, A⟩ := K
  obtain ⟨⟨hx, hb, hml, hown, hts⟩, hK, hj, hA, hST, hlk, hR, hn, hmc, hms⟩ := C
  intro H ls locs hl hP hS
  exact lv_ishr hx hb hd (k H ls locs hl hP hS)
theorem g_ladd {x y : Int64} (C : OK l w K cc nl own d mc ms) (hd : decode cc pc = .ok (.ladd, 1)) (k : G l w K (pc + 1) lv (.long (x + y) :: st) σ) : G l w K pc lv (.long y :: .long x :: st) σ := by
  obtain ⟨⟨p, e, R, s, m, args, below, meth, c⟩, ⟨nL, cells, slots⟩, Q, A⟩ := K
  obtain ⟨⟨hx, hb, hml, hown, hts⟩, hK, hj, hA, hST, hlk, hR, hn, hmc, hms⟩ := C
  intro H ls locs hl hP hS
  exact lv_ladd hx hb hd (k H ls locs hl hP hS)
theorem g_lsub {x y : Int64} (C : OK l w K cc nl own d mc ms) (hd : decode cc pc = .ok (.lsub, 1)) (k : G l w K (pc + 1) lv (.long (x - y) :: st) σ) : G l w K pc lv (.long y :: .long x :: st) σ := by
  obtain ⟨⟨p, e, R, s, m, args, below, meth, c⟩, ⟨nL, cells, slots⟩, Q, A⟩ := K
  obtain ⟨⟨hx, hb, hml, hown, hts⟩, hK, hj, hA, hST, hlk, hR, hn, hmc, hms⟩ := C
  intro H ls locs hl hP hS
  exact lv_lsub hx hb hd (k H ls locs hl hP hS)
theorem g_lmul {x y : Int64} (C : OK l w K cc nl own d mc ms) (hd : decode cc pc = .ok (.lmul, 1)) (k : G l w K (pc + 1) lv (.long (x * y) :: st) σ) : G l w K pc lv (.long y :: .long x :: st) σ := by
  obtain ⟨⟨p, e, R, s, m, args, below, meth, c⟩, ⟨nL, cells, slots⟩, Q, A⟩ := K
  obtain ⟨⟨hx, hb, hml, hown, hts⟩, hK, hj, hA, hST, hlk, hR, hn, hmc, hms⟩ := C
  intro H ls locs hl hP hS
  exact lv_lmul hx hb hd (k H ls locs hl hP hS)
theorem g_idiv {x y : Int32} (C : OK l w K cc nl own d mc ms) (hd : decode cc pc = .ok (.idiv, 1)) (hne : ¬ y = 0) (k : G l w K (pc + 1) lv (.int (x / y) :: st) σ) : G l w K pc lv (.int y :: .int x :: st) σ := by
  obtain ⟨⟨p, e, R, s, m, args, below, meth, c⟩, ⟨nL, cells, slots⟩, Q, A⟩ := K
  obtain ⟨⟨hx, hb, hml, hown, hts⟩, hK, hj, hA, hST, hlk, hR, hn, hmc, hms⟩ := C
  intro H ls locs hl hP hS
  exact lv_idiv hx hb hd hne (k H ls locs hl hP hS)
theorem g_irem {x y : Int32} (C : OK l w K cc nl own d mc ms) (hd : decode cc pc = .ok (.irem, 1)) (hne : ¬ y = 0) (k : G l w K (pc + 1) lv (.int (x - x / y * y) :: st) σ) : G l w K pc lv (.int y :: .int x :: st) σ := by
  obtain ⟨⟨p, e, R, s, m, args, below, meth, c⟩, ⟨nL, cells, slots⟩, Q, A⟩ := K
  obtain ⟨⟨hx, hb, hml, hown, hts⟩, hK, hj, hA, hST, hlk, hR, hn, hmc, hms⟩ := C
  intro H ls locs hl hP hS
  exact lv_irem hx hb hd hne (k H ls locs hl hP hS)
theorem g_ldiv {x y : Int64} (C : OK l w K cc nl own d mc ms) (hd : decode cc pc = .ok (.ldiv, 1)) (hne : ¬ y = 0) (k : G l w K (pc + 1) lv (.long (x / y) :: st) σ) : G l w K pc lv (.long y :: .long x :: st) σ := by
  obtain ⟨⟨p, e, R, s, m, args, below, meth, c⟩, ⟨nL, cells, slots⟩, Q, A⟩ := K
  obtain ⟨⟨hx, hb, hml, hown, hts⟩, hK, hj, hA, hST, hlk, hR, hn, hmc, hms⟩ := C
  intro H ls locs hl hP hS
  exact lv_ldiv hx hb hd hne (k H ls locs hl hP hS)
theorem g_lrem {x y : Int64} (C : OK l w K cc nl own d mc ms) (hd : decode cc pc = .ok (.lrem, 1)) (hne : ¬ y = 0) (k : G l w K (pc + 1) lv (.long (x - x / y * y) :: st) σ) : G l w K pc lv (.long y :: .long x :: st) σ := by
  obtain ⟨⟨p, e, R, s, m, args, below, meth, c⟩, ⟨nL, cells, slots⟩, Q, A⟩ := K
  obtain ⟨⟨hx, hb, hml, hown, hts⟩, hK, hj, hA, hST, hlk, hR, hn, hmc, hms⟩ := C
  intro H ls locs hl hP hS
  exact lv_lrem hx hb hd hne (k H ls locs hl hP hS)
theorem g_ineg {x : Int32} (C : OK l w K cc nl own d mc ms) (hd : decode cc pc = .ok (.ineg, 1)) (k : G l w K (pc + 1) lv (.int (-x) :: st) σ) : G l w K pc lv (.int x :: st) σ := by
  obtain ⟨⟨p, e, R, s, m, args, below, meth, c⟩, ⟨nL, cells, slots⟩, Q, A⟩ := K
  obtain ⟨⟨hx, hb, hml, hown, hts⟩, hK, hj, hA, hST, hlk, hR, hn, hmc, hms⟩ := C
  intro H ls locs hl hP hS
  exact lv_ineg hx hb hd (k H ls locs hl hP hS)
theorem g_i2l {x : Int32} (C : OK l w K cc nl own d mc ms) (hd : decode cc pc = .ok (.i2l, 1)) (k : G l w K (pc + 1) lv (.long x.toInt64 :: st) σ) : G l w K pc lv (.int x :: st) σ := by
  obtain ⟨⟨p, e, R, s, m, args, below, meth, c⟩, ⟨nL, cells, slots⟩, Q, A⟩ := K
  obtain ⟨⟨hx, hb, hml, hown, hts⟩, hK, hj, hA, hST, hlk, hR, hn, hmc, hms⟩ := C
  intro H ls locs hl hP hS
  exact lv_i2l hx hb hd rfl (k H ls locs hl hP hS)
theorem g_i2c {x v : Int32} (C : OK l w K cc nl own d mc ms) (hd : decode cc pc = .ok (.i2c, 1)) (hv : (x.toUInt32 % 65536).toInt32 = v) (k : G l w K (pc + 1) lv (.int v :: st) σ) : G l w K pc lv (.int x :: st) σ := by
  obtain ⟨⟨p, e, R, s, m, args, below, meth, c⟩, ⟨nL, cells, slots⟩, Q, A⟩ := K
  obtain ⟨⟨hx, hb, hml, hown, hts⟩, hK, hj, hA, hST, hlk, hR, hn, hmc, hms⟩ := C
  intro H ls locs hl hP hS
  exact lv_i2c hx hb hd hv (k H ls locs hl hP hS)
theorem g_dup {va : Value} (C : OK l w K cc nl own d mc ms) (hd : decode cc pc = .ok (.dup, 1)) (hc : va.category = 1) (k : G l w K (pc + 1) lv (va :: va :: st) σ) : G l w K pc lv (va :: st) σ := by
  obtain ⟨⟨p, e, R, s, m, args, below, meth, c⟩, ⟨nL, cells, slots⟩, Q, A⟩ := K
  obtain ⟨⟨hx, hb, hml, hown, hts⟩, hK, hj, hA, hST, hlk, hR, hn, hmc, hms⟩ := C
  intro H ls locs hl hP hS
  exact lv_dup hx hb hd hc (k H ls locs hl hP hS)
theorem g_pop {va : Value} (C : OK l w K cc nl own d mc ms) (hd : decode cc pc = .ok (.pop, 1)) (hc : va.category = 1) (k : G l w K (pc + 1) lv (st) σ) : G l w K pc lv (va :: st) σ := by
  obtain ⟨⟨p, e, R, s, m, args, below, meth, c⟩, ⟨nL, cells, slots⟩, Q, A⟩ := K
  obtain ⟨⟨hx, hb, hml, hown, hts⟩, hK, hj, hA, hST, hlk, hR, hn, hmc, hms⟩ := C
  intro H ls locs hl hP hS
  exact lv_pop hx hb hd hc (k H ls locs hl hP hS)
theorem g_dup2 {va vb : Value} (C : OK l w K cc nl own d mc ms) (hd : decode cc pc = .ok (.dup2, 1)) (hc : va.category = 1) (hc2 : vb.category = 1) (k : G l w K (pc + 1) lv (va :: vb :: va :: vb :: st) σ) : G l w K pc lv (va :: vb :: st) σ := by
  obtain ⟨⟨p, e, R, s, m, args, below, meth, c⟩, ⟨nL, cells, slots⟩, Q, A⟩ := K
  obtain ⟨⟨hx, hb, hml, hown, hts⟩, hK, hj, hA, hST, hlk, hR, hn, hmc, hms⟩ := C
  intro H ls locs hl hP hS
  exact lv_dup2_11 hx hb hd hc hc2 (k H ls locs hl hP hS)
theorem g_goto {off : Int} {tgt : Nat} (C : OK l w K cc nl own d mc ms) (hd : decode cc pc = .ok (.goto off, 3)) (ht : (pc : Int) + off = (tgt : Int)) (k : G l w K (tgt) lv (st) σ) : G l w K pc lv (st) σ := by
  obtain ⟨⟨p, e, R, s, m, args, below, meth, c⟩, ⟨nL, cells, slots⟩, Q, A⟩ := K
  obtain ⟨⟨hx, hb, hml, hown, hts⟩, hK, hj, hA, hST, hlk, hR, hn, hmc, hms⟩ := C
  intro H ls locs hl hP hS
  exact lv_goto hx hb hd ht (k H ls locs hl hP hS)
theorem g_lcmp {x y : Int64} (C : OK l w K cc nl own d mc ms) (hd : decode cc pc = .ok (.lcmp, 1)) (k : G l w K (pc + 1) lv (.int (lg_cmp x y) :: st) σ) : G l w K pc lv (.long y :: .long x :: st) σ := by
  obtain ⟨⟨p, e, R, s, m, args, below, meth, c⟩, ⟨nL, cells, slots⟩, Q, A⟩ := K
  obtain ⟨⟨hx, hb, hml, hown, hts⟩, hK, hj, hA, hST, hlk, hR, hn, hmc, hms⟩ := C
  intro H ls locs hl hP hS
  exact W.lcmp hx hb hd (k H ls locs hl hP hS)
theorem g_if_ne {x : Int32} {off : Int} {tgt : Nat} (C : OK l w K cc nl own d mc ms) (hd : decode cc pc = .ok (.ifCond .ne off, 3)) (ht : (pc : Int) + off = (tgt : Int)) (kt : ¬ (x = 0) → G l w K tgt lv st σ) (kf : (x = 0) → G l w K (pc + 3) lv st σ) : G l w K pc lv (.int x :: st) σ := by
  obtain ⟨⟨p, e, R, s, m, args, below, meth, c⟩, ⟨nL, cells, slots⟩, Q, A⟩ := K
  obtain ⟨⟨hx, hb, hml, hown, hts⟩, hK, hj, hA, hST, hlk, hR, hn, hmc, hms⟩ := C
  intro H ls locs hl hP hS
  exact lv_if_ne hx hb hd ht (fun q => kt q H ls locs hl hP hS) (fun q => kf q H ls locs hl hP hS)
theorem g_icmp_ne {x y : Int32} {off : Int} {tgt : Nat} (C : OK l w K cc nl own d mc ms) (hd : decode cc pc = .ok (.if_icmp .ne off, 3)) (ht : (pc : Int) + off = (tgt : Int)) (kt : ¬ (x = y) → G l w K tgt lv st σ) (kf : (x = y) → G l w K (pc + 3) lv st σ) : G l w K pc lv (.int y :: .int x :: st) σ := by
  obtain ⟨⟨p, e, R, s, m, args, below, meth, c⟩, ⟨nL, cells, slots⟩, Q, A⟩ := K
  obtain ⟨⟨hx, hb, hml, hown, hts⟩, hK, hj, hA, hST, hlk, hR, hn, hmc, hms⟩ := C
  intro H ls locs hl hP hS
  exact lv_icmp_ne hx hb hd ht (fun q => kt q H ls locs hl hP hS) (fun q => kf q H ls locs hl hP hS)
theorem g_if_eq {x : Int32} {off : Int} {tgt : Nat} (C : OK l w K cc nl own d mc ms) (hd : decode cc pc = .ok (.ifCond .eq off, 3)) (ht : (pc : Int) + off = (tgt : Int)) (kt : (x = 0) → G l w K tgt lv st σ) (kf : ¬ (x = 0) → G l w K (pc + 3) lv st σ) : G l w K pc lv (.int x :: st) σ := by
  obtain ⟨⟨p, e, R, s, m, args, below, meth, c⟩, ⟨nL, cells, slots⟩, Q, A⟩ := K
  obtain ⟨⟨hx, hb, hml, hown, hts⟩, hK, hj, hA, hST, hlk, hR, hn, hmc, hms⟩ := C
  intro H ls locs hl hP hS
  exact lv_if_eq hx hb hd ht (fun q => kt q H ls locs hl hP hS) (fun q => kf q H ls locs hl hP hS)
theorem g_icmp_eq {x y : Int32} {off : Int} {tgt : Nat} (C : OK l w K cc nl own d mc ms) (hd : decode cc pc = .ok (.if_icmp .eq off, 3)) (ht : (pc : Int) + off = (tgt : Int)) (kt : (x = y) → G l w K tgt lv st σ) (kf : ¬ (x = y) → G l w K (pc + 3) lv st σ) : G l w K pc lv (.int y :: .int x :: st) σ := by
  obtain ⟨⟨p, e, R, s, m, args, below, meth, c⟩, ⟨nL, cells, slots⟩, Q, A⟩ := K
  obtain ⟨⟨hx, hb, hml, hown, hts⟩, hK, hj, hA, hST, hlk, hR, hn, hmc, hms⟩ := C
  intro H ls locs hl hP hS
  exact lv_icmp_eq hx hb hd ht (fun q => kt q H ls locs hl hP hS) (fun q => kf q H ls locs hl hP hS)
theorem g_if_lt {x : Int32} {off : Int} {tgt : Nat} (C : OK l w K cc nl own d mc ms) (hd : decode cc pc = .ok (.ifCond .lt off, 3)) (ht : (pc : Int) + off = (tgt : Int)) (kt : (x < 0) → G l w K tgt lv st σ) (kf : ¬ (x < 0) → G l w K (pc + 3) lv st σ) : G l w K pc lv (.int x :: st) σ := by
  obtain ⟨⟨p, e, R, s, m, args, below, meth, c⟩, ⟨nL, cells, slots⟩, Q, A⟩ := K
  obtain ⟨⟨hx, hb, hml, hown, hts⟩, hK, hj, hA, hST, hlk, hR, hn, hmc, hms⟩ := C
  intro H ls locs hl hP hS
  exact lv_if_lt hx hb hd ht (fun q => kt q H ls locs hl hP hS) (fun q => kf q H ls locs hl hP hS)
theorem g_icmp_lt {x y : Int32} {off : Int} {tgt : Nat} (C : OK l w K cc nl own d mc ms) (hd : decode cc pc = .ok (.if_icmp .lt off, 3)) (ht : (pc : Int) + off = (tgt : Int)) (kt : (x < y) → G l w K tgt lv st σ) (kf : ¬ (x < y) → G l w K (pc + 3) lv st σ) : G l w K pc lv (.int y :: .int x :: st) σ := by
  obtain ⟨⟨p, e, R, s, m, args, below, meth, c⟩, ⟨nL, cells, slots⟩, Q, A⟩ := K
  obtain ⟨⟨hx, hb, hml, hown, hts⟩, hK, hj, hA, hST, hlk, hR, hn, hmc, hms⟩ := C
  intro H ls locs hl hP hS
  exact lv_icmp_lt hx hb hd ht (fun q => kt q H ls locs hl hP hS) (fun q => kf q H ls locs hl hP hS)
theorem g_if_ge {x : Int32} {off : Int} {tgt : Nat} (C : OK l w K cc nl own d mc ms) (hd : decode cc pc = .ok (.ifCond .ge off, 3)) (ht : (pc : Int) + off = (tgt : Int)) (kt : (0 ≤ x) → G l w K tgt lv st σ) (kf : ¬ (0 ≤ x) → G l w K (pc + 3) lv st σ) : G l w K pc lv (.int x :: st) σ := by
  obtain ⟨⟨p, e, R, s, m, args, below, meth, c⟩, ⟨nL, cells, slots⟩, Q, A⟩ := K
  obtain ⟨⟨hx, hb, hml, hown, hts⟩, hK, hj, hA, hST, hlk, hR, hn, hmc, hms⟩ := C
  intro H ls locs hl hP hS
  exact lv_if_ge hx hb hd ht (fun q => kt q H ls locs hl hP hS) (fun q => kf q H ls locs hl hP hS)
theorem g_icmp_ge {x y : Int32} {off : Int} {tgt : Nat} (C : OK l w K cc nl own d mc ms) (hd : decode cc pc = .ok (.if_icmp .ge off, 3)) (ht : (pc : Int) + off = (tgt : Int)) (kt : (y ≤ x) → G l w K tgt lv st σ) (kf : ¬ (y ≤ x) → G l w K (pc + 3) lv st σ) : G l w K pc lv (.int y :: .int x :: st) σ := by
  obtain ⟨⟨p, e, R, s, m, args, below, meth, c⟩, ⟨nL, cells, slots⟩, Q, A⟩ := K
  obtain ⟨⟨hx, hb, hml, hown, hts⟩, hK, hj, hA, hST, hlk, hR, hn, hmc, hms⟩ := C
  intro H ls locs hl hP hS
  exact lv_icmp_ge hx hb hd ht (fun q => kt q H ls locs hl hP hS) (fun q => kf q H ls locs hl hP hS)
theorem g_if_gt {x : Int32} {off : Int} {tgt : Nat} (C : OK l w K cc nl own d mc ms) (hd : decode cc pc = .ok (.ifCond .gt off, 3)) (ht : (pc : Int) + off = (tgt : Int)) (kt : (0 < x) → G l w K tgt lv st σ) (kf : ¬ (0 < x) → G l w K (pc + 3) lv st σ) : G l w K pc lv (.int x :: st) σ := by
  obtain ⟨⟨p, e, R, s, m, args, below, meth, c⟩, ⟨nL, cells, slots⟩, Q, A⟩ := K
  obtain ⟨⟨hx, hb, hml, hown, hts⟩, hK, hj, hA, hST, hlk, hR, hn, hmc, hms⟩ := C
  intro H ls locs hl hP hS
  exact lv_if_gt hx hb hd ht (fun q => kt q H ls locs hl hP hS) (fun q => kf q H ls locs hl hP hS)
theorem g_icmp_gt {x y : Int32} {off : Int} {tgt : Nat} (C : OK l w K cc nl own d mc ms) (hd : decode cc pc = .ok (.if_icmp .gt off, 3)) (ht : (pc : Int) + off = (tgt : Int)) (kt : (y < x) → G l w K tgt lv st σ) (kf : ¬ (y < x) → G l w K (pc + 3) lv st σ) : G l w K pc lv (.int y :: .int x :: st) σ := by
  obtain ⟨⟨p, e, R, s, m, args, below, meth, c⟩, ⟨nL, cells, slots⟩, Q, A⟩ := K
  obtain ⟨⟨hx, hb, hml, hown, hts⟩, hK, hj, hA, hST, hlk, hR, hn, hmc, hms⟩ := C
  intro H ls locs hl hP hS
  exact lv_icmp_gt hx hb hd ht (fun q => kt q H ls locs hl hP hS) (fun q => kf q H ls locs hl hP hS)
theorem g_if_le {x : Int32} {off : Int} {tgt : Nat} (C : OK l w K cc nl own d mc ms) (hd : decode cc pc = .ok (.ifCond .le off, 3)) (ht : (pc : Int) + off = (tgt : Int)) (kt : (x ≤ 0) → G l w K tgt lv st σ) (kf : ¬ (x ≤ 0) → G l w K (pc + 3) lv st σ) : G l w K pc lv (.int x :: st) σ := by
  obtain ⟨⟨p, e, R, s, m, args, below, meth, c⟩, ⟨nL, cells, slots⟩, Q, A⟩ := K
  obtain ⟨⟨hx, hb, hml, hown, hts⟩, hK, hj, hA, hST, hlk, hR, hn, hmc, hms⟩ := C
  intro H ls locs hl hP hS
  exact lv_if_le hx hb hd ht (fun q => kt q H ls locs hl hP hS) (fun q => kf q H ls locs hl hP hS)
theorem g_icmp_le {x y : Int32} {off : Int} {tgt : Nat} (C : OK l w K cc nl own d mc ms) (hd : decode cc pc = .ok (.if_icmp .le off, 3)) (ht : (pc : Int) + off = (tgt : Int)) (kt : (x ≤ y) → G l w K tgt lv st σ) (kf : ¬ (x ≤ y) → G l w K (pc + 3) lv st σ) : G l w K pc lv (.int y :: .int x :: st) σ := by
  obtain ⟨⟨p, e, R, s, m, args, below, meth, c⟩, ⟨nL, cells, slots⟩, Q, A⟩ := K
  obtain ⟨⟨hx, hb, hml, hown, hts⟩, hK, hj, hA, hST, hlk, hR, hn, hmc, hms⟩ := C
  intro H ls locs hl hP hS
  exact lv_icmp_le hx hb hd ht (fun q => kt q H ls locs hl hP hS) (fun q => kf q H ls locs hl hP hS)
/-! ===== ends ===== -/
theorem g_iret {ty : FieldType} {post : Int32 → SG → Prop} {v : Int32} (C : OK l w K cc nl own d mc ms) (r : RI w K ty post) (hnr : narrow ty (.int v) = .int v) (hd : decode cc pc = .ok (.ireturn, 1)) (h : post v σ) : G l w K pc lv [.int v] σ := by
  obtain ⟨⟨p, e, R, s, m, args, below, meth, c⟩, ⟨nL, cells, slots⟩, Q, A⟩ := K
  obtain ⟨⟨hx, hb, hml, hown, hts⟩, hK, hj, hA, hST, hlk, hR, hn, hmc, hms⟩ := C
  obtain ⟨hr, hQ⟩ := r
  subst hQ
  intro H ls locs hl hP hS
  exact W.zret hx hb hr hnr (fun t ht hW => ⟨⟨v, σ, rfl, h, by show va_P _ _ _ t.heap; rw [ht]; exact hP⟩, hS.F ht⟩) hS.2.2 hd hlk
theorem g_vret {post : SG → Prop} (C : OK l w K cc nl own d mc ms) (r : RV w K post) (hd : decode cc pc = .ok (.return_, 1)) (h : post σ) : G l w K pc lv [] σ := by
  obtain ⟨⟨p, e, R, s, m, args, below, meth, c⟩, ⟨nL, cells, slots⟩, Q, A⟩ := K
  obtain ⟨⟨hx, hb, hml, hown, hts⟩, hK, hj, hA, hST, hlk, hR, hn, hmc, hms⟩ := C
  obtain ⟨hr, hQ⟩ := r
  subst hQ
  intro H ls locs hl hP hS
  exact W.vret hx hb hr (fun t ht hW => ⟨⟨σ, rfl, h, by show va_P _ _ _ t.heap; rw [ht]; exact hP⟩, hS.F ht⟩) hS.2.2 hd hlk
theorem g_lret {post : Int64 → SG → Prop} {v : Int64} (C : OK l w K cc nl own d mc ms) (r : RJ w K post) (hd : decode cc pc = .ok (.lreturn, 1)) (h : post v σ) : G l w K pc lv [.long v] σ := by
  obtain ⟨⟨p, e, R, s, m, args, below, meth, c⟩, ⟨nL, cells, slots⟩, Q, A⟩ := K
  obtain ⟨⟨hx, hb, hml, hown, hts⟩, hK, hj, hA, hST, hlk, hR, hn, hmc, hms⟩ := C
  obtain ⟨hr, hQ⟩ := r
  subst hQ
  intro H ls locs hl hP hS
  exact W.lret hx hb hr (fun t ht hW => ⟨⟨v, σ, rfl, h, by show va_P _ _ _ t.heap; rw [ht]; exact hP⟩, hS.F ht⟩) hS.2.2 hd hlk
/-! ===== switches ===== -/
theorem g_tsw {dflt lo hi : Int} {offs : Array Int} {len : Nat} {x v : Int32} {off : Int} {tgt : Nat} (C : OK l w K cc nl own d mc ms) (hd : decode cc pc = .ok (.tableswitch dflt lo hi offs, len)) (hv : x = v) (h1 : ¬ v.toInt < lo) (h2 : ¬ hi < v.toInt) (ho : offs[(v.toInt - lo).toNat]? = some off) (ht : (pc : Int) + off = (tgt : Int)) (k : G l w K tgt lv st σ) : G l w K pc lv (.int x :: st) σ := by
  subst hv
  obtain ⟨⟨p, e, R, s, m, args, below, meth, c⟩, ⟨nL, cells, slots⟩, Q, A⟩ := K
  obtain ⟨⟨hx, hb, hml, hown, hts⟩, hK, hj, hA, hST, hlk, hR, hn, hmc, hms⟩ := C
  intro H ls locs hl hP hS
  exact lv_tableIn hx hb hd h1 h2 ho ht (k H ls locs hl hP hS)
theorem g_tswd {dflt lo hi : Int} {offs : Array Int} {len : Nat} {x : Int32} {tgt : Nat} (C : OK l w K cc nl own d mc ms) (hd : decode cc pc = .ok (.tableswitch dflt lo hi offs, len)) (h : x.toInt < lo ∨ hi < x.toInt) (ht : (pc : Int) + dflt = (tgt : Int)) (k : G l w K tgt lv st σ) : G l w K pc lv (.int x :: st) σ := by
  obtain ⟨⟨p, e, R, s, m, args, below, meth, c⟩, ⟨nL, cells, slots⟩, Q, A⟩ := K
  obtain ⟨⟨hx, hb, hml, hown, hts⟩, hK, hj, hA, hST, hlk, hR, hn, hmc, hms⟩ := C
  intro H ls locs hl hP hS
  exact lv_tableOut hx hb hd h ht (k H ls locs hl hP hS)
theorem g_lsw {dflt : Int} {ps : Array (Int × Int)} {len : Nat} {x : Int32} {off : Int} {tgt : Nat} (C : OK l w K cc nl own d mc ms) (hd : decode cc pc = .ok (.lookupswitch dflt ps, len)) (hp : (ps.toList.zip (ps.toList.drop 1)).all (fun (a, next) => a.1 < next.1) = true) (ho : Op.lookupswitch.offset ps.toList dflt x.toInt = off) (ht : (pc : Int) + off = (tgt : Int)) (k : G l w K tgt lv st σ) : G l w K pc lv (.int x :: st) σ := by
  obtain ⟨⟨p, e, R, s, m, args, below, meth, c⟩, ⟨nL, cells, slots⟩, Q, A⟩ := K
  obtain ⟨⟨hx, hb, hml, hown, hts⟩, hK, hj, hA, hST, hlk, hR, hn, hmc, hms⟩ := C
  intro H ls locs hl hP hS
  exact lv_lookup hx hb hd hp ho ht (k H ls locs hl hP hS)
theorem ne_toInt {x v : Int32} (h : ¬ x = v) : x.toInt ≠ v.toInt := fun q => h (Int32.toInt_inj.mp q)
/-! ===== fields ===== -/
/-- a field's words: class number ci, slot j -/
def FL (own : String) (idx ci j : Nat) : Prop := ∃ (C : String) (T : u_T) (Nf : Nat), vwCl[ci]? = some (C, T, Nf) ∧ j < Nf ∧ (∀ x ∈ u_ws C T Nf, x ∈ gt) ∧ Cond.fieldLink own idx C (T j).2.1 (T j).2.2.1 ∈ gt
def FP (own : String) (idx ci j : Nat) (ty : FieldType) : Prop := ∃ (C : String) (T : u_T) (Nf : Nat) (ty0 : Nat → FieldType), vwCl[ci]? = some (C, T, Nf) ∧ j < Nf ∧ (∀ x ∈ u_ws C T Nf, x ∈ gt) ∧ Cond.fieldLink own idx C (T j).2.1 (T j).2.2.1 ∈ gt ∧ (∀ k, k < Nf → parseFieldDescriptor (T k).2.2.1 = some (ty0 k)) ∧ (∀ a, a < Nf → ∀ b, b < Nf → a ≠ b → (T a).2.1 ≠ (T b).2.1) ∧ (T j).2.2.2 = false ∧ parseFieldDescriptor (T j).2.2.1 = some ty ∧ (T j).1 = C
def FS (own : String) (idx ci j : Nat) : Prop := ∃ (C : String) (T : u_T) (Nf : Nat), vwCl[ci]? = some (C, T, Nf) ∧ (T j).1 = C
theorem g_get {idx ci j k0 : Nat} {fs : List Value} {v : Value} (C : OK l w K cc nl own d mc ms) (hF : FL own idx ci j) (hS1 : FS own idx ci j) (hk : k0 < wN w) (he : shp w k0 (σ k0) = .inr (ci, fs)) (hv : fs[j]? = some v) (hd : decode cc pc = .ok (.getfield idx, 3)) (k : G l w K (pc + 3) lv (v :: st) σ) : G l w K pc lv (.ref (wA w k0) :: st) σ := by
  obtain ⟨⟨p, e, R, s, m, args, below, meth, c⟩, ⟨nL, cells, slots⟩, Q, A⟩ := K
  obtain ⟨⟨hx, hb, hml, hown, hts⟩, hK, hj, hA, hST, hlk, hR, hn, hmc, hms⟩ := C
  obtain ⟨C, T, Nf, h1, h2, h3, h4⟩ := hF
  obtain ⟨C', T', Nf', h1', h5⟩ := hS1
  rw [h1] at h1'
  cases h1'
  intro H ls locs hl hP hS
  exact va_get (C := C) (T := T) (N := Nf) hx hb hts h3 hown hK hP k0 (pw_a hk he) h1 j h2 (hts _ h4) (fun _ h9 => by rw [h5] at h9; exact h9) hv hd (k H ls locs hl hP hS)
theorem g_put {idx ci j k0 : Nat} {fs : List Value} {x : Int32} {ty : FieldType} (C : OK l w K cc nl own d mc ms) (hF : FP own idx ci j ty) (hk : k0 < wN w) (he : shp w k0 (σ k0) = .inr (ci, fs)) (hset : shp w k0 (upd (σ k0) j x) = .inr (ci, fs.set j (.int x))) (hlen : j < fs.length) (hnr : narrow ty (.int x) = .int x) (hfit : fits ty (.int x) = true) (hd : decode cc pc = .ok (.putfield idx, 3)) (k : G l w K (pc + 3) lv st (up σ k0 j x)) : G l w K pc lv (.int x :: .ref (wA w k0) :: st) σ := by
  obtain ⟨⟨p, e, R, s, m, args, below, meth, c⟩, ⟨nL, cells, slots⟩, Q, A⟩ := K
  obtain ⟨⟨hx, hb, hml, hown, hts⟩, hK, hj, hA, hST, hlk, hR, hn, hmc, hms⟩ := C
  obtain ⟨C, T, Nf, ty0, h1, h2, h3, h4, h5, h6, h7, h8, h9⟩ := hF
  intro H ls locs hl hP hS
  refine va_put (C := C) (T := T) (N := Nf) (ty := ty) hx hb hts h3 ty0 h5 h6 hown hK hP hj.D hS k0 (pw_a hk he) h1 j h2 (hts _ h4) (fun _ q => by rw [h9] at q; exact q) h7 h8 hnr hfit hlen hd (fun H1 locs1 hP1 hD1 hS1 => ?_)
  rw [pw_st hset] at hP1
  exact k H1 ls locs1 hl hP1 hS1
/-! ===== arrays ===== -/
theorem g_iald {k0 n : Nat} {i : Int32} (C : OK l w K cc nl own d mc ms) (hk : k0 < wN w) (he : shp w k0 = aI w n) (hin : vp_in i n) (hd : decode cc pc = .ok (.iaload, 1)) (k : G l w K (pc + 1) lv (.int (σ k0 i.toNatClampNeg) :: st) σ) : G l w K pc lv (.int i :: .ref (wA w k0) :: st) σ := by
  obtain ⟨⟨p, e, R, s, m, args, below, meth, c⟩, ⟨nL, cells, slots⟩, Q, A⟩ := K
  obtain ⟨⟨hx, hb, hml, hown, hts⟩, hK, hj, hA, hST, hlk, hR, hn, hmc, hms⟩ := C
  intro H ls locs hl hP hS
  exact va_iald hx hb hK hP k0 0 (pw_a hk (by rw [he])) rfl hin hd (k H ls locs hl hP hS)
theorem g_iast {k0 n : Nat} {i x : Int32} (C : OK l w K cc nl own d mc ms) (hk : k0 < wN w) (he : shp w k0 = aI w n) (hin : vp_in i n) (hd : decode cc pc = .ok (.iastore, 1)) (k : G l w K (pc + 1) lv st (up σ k0 i.toNatClampNeg x)) : G l w K pc lv (.int x :: .int i :: .ref (wA w k0) :: st) σ := by
  obtain ⟨⟨p, e, R, s, m, args, below, meth, c⟩, ⟨nL, cells, slots⟩, Q, A⟩ := K
  obtain ⟨⟨hx, hb, hml, hown, hts⟩, hK, hj, hA, hST, hlk, hR, hn, hmc, hms⟩ := C
  intro H ls locs hl hP hS
  refine va_iast hx hb hK hP hj.D hS k0 0 (pw_a hk (by rw [he])) rfl hin hd (fun H1 locs1 hP1 hD1 hS1 => ?_)
  rw [pw_st (g := upd (σ k0) i.toNatClampNeg x) (by rw [he])] at hP1
  exact k H1 ls locs1 hl hP1 hS1
theorem g_cald {k0 n : Nat} {i : Int32} (C : OK l w K cc nl own d mc ms) (hk : k0 < wN w) (he : shp w k0 = aC w n) (hin : vp_in i n) (hd : decode cc pc = .ok (.caload, 1)) (k : G l w K (pc + 1) lv (.int (σ k0 i.toNatClampNeg) :: st) σ) : G l w K pc lv (.int i :: .ref (wA w k0) :: st) σ := by
  obtain ⟨⟨p, e, R, s, m, args, below, meth, c⟩, ⟨nL, cells, slots⟩, Q, A⟩ := K
  obtain ⟨⟨hx, hb, hml, hown, hts⟩, hK, hj, hA, hST, hlk, hR, hn, hmc, hms⟩ := C
  intro H ls locs hl hP hS
  exact va_cald hx hb hK hP k0 1 (pw_a hk (by rw [he])) rfl hin hd (k H ls locs hl hP hS)
theorem g_cast {k0 n : Nat} {i x : Int32} (C : OK l w K cc nl own d mc ms) (hk : k0 < wN w) (he : shp w k0 = aC w n) (hin : vp_in i n) (hd : decode cc pc = .ok (.castore, 1)) (k : G l w K (pc + 1) lv st (up σ k0 i.toNatClampNeg (vp_nar .char x))) : G l w K pc lv (.int x :: .int i :: .ref (wA w k0) :: st) σ := by
  obtain ⟨⟨p, e, R, s, m, args, below, meth, c⟩, ⟨nL, cells, slots⟩, Q, A⟩ := K
  obtain ⟨⟨hx, hb, hml, hown, hts⟩, hK, hj, hA, hST, hlk, hR, hn, hmc, hms⟩ := C
  intro H ls locs hl hP hS
  refine va_cast hx hb hK hP hj.D hS k0 1 (pw_a hk (by rw [he])) rfl hin hd (fun H1 locs1 hP1 hD1 hS1 => ?_)
  rw [pw_st (g := upd (σ k0) i.toNatClampNeg (vp_nar .char x)) (by rw [he])] at hP1
  exact k H1 ls locs1 hl hP1 hS1
theorem g_alen {k0 n : Nat} {v : Int32} (C : OK l w K cc nl own d mc ms) (hk : k0 < wN w) (he : shp w k0 = aI w n) (hv : Int32.ofNat n = v) (hd : decode cc pc = .ok (.arraylength, 1)) (k : G l w K (pc + 1) lv (.int v :: st) σ) : G l w K pc lv (.ref (wA w k0) :: st) σ := by
  obtain ⟨⟨p, e, R, s, m, args, below, meth, c⟩, ⟨nL, cells, slots⟩, Q, A⟩ := K
  obtain ⟨⟨hx, hb, hml, hown, hts⟩, hK, hj, hA, hST, hlk, hR, hn, hmc, hms⟩ := C
  intro H ls locs hl hP hS
  exact va_alen hx hb hK hP k0 0 (pw_a hk (by rw [he])) rfl hv hd (k H ls locs hl hP hS)
theorem g_alenC {k0 n : Nat} {v : Int32} (C : OK l w K cc nl own d mc ms) (hk : k0 < wN w) (he : shp w k0 = aC w n) (hv : Int32.ofNat n = v) (hd : decode cc pc = .ok (.arraylength, 1)) (k : G l w K (pc + 1) lv (.int v :: st) σ) : G l w K pc lv (.ref (wA w k0) :: st) σ := by
  obtain ⟨⟨p, e, R, s, m, args, below, meth, c⟩, ⟨nL, cells, slots⟩, Q, A⟩ := K
  obtain ⟨⟨hx, hb, hml, hown, hts⟩, hK, hj, hA, hST, hlk, hR, hn, hmc, hms⟩ := C
  intro H ls locs hl hP hS
  exact va_alen hx hb hK hP k0 1 (pw_a hk (by rw [he])) rfl hv hd (k H ls locs hl hP hS)
theorem g_aald {k0 b : Nat} {i : Int32} (C : OK l w K cc nl own d mc ms) (hk : k0 < wN w) (he : shp w k0 = fun _ => aO w b) (hin : vp_in i 4) (hd : decode cc pc = .ok (.aaload, 1)) (k : G l w K (pc + 1) lv (.ref (wA w (b + 5 + i.toNatClampNeg)) :: st) σ) : G l w K pc lv (.int i :: .ref (wA w k0) :: st) σ := by
  obtain ⟨⟨p, e, R, s, m, args, below, meth, c⟩, ⟨nL, cells, slots⟩, Q, A⟩ := K
  obtain ⟨⟨hx, hb, hml, hown, hts⟩, hK, hj, hA, hST, hlk, hR, hn, hmc, hms⟩ := C
  intro H ls locs hl hP hS
  have hlt : i.toNatClampNeg < 4 := Nat.not_le.mp fun q => hin (Or.inr q)
  have h1 : (pw w σ)[k0]? = some (wA w k0, aO w b) := pw_a hk (by rw [he])
  exact W.aald (v := .ref (wA w (b + 5 + i.toNatClampNeg))) (ty := .array .int) hx hb (hP k0 _ h1) ((hK.2 2 _ rfl).1 4 (fun j => va_rf (some (wA w (b + 5 + j))))) rfl (fun q => by cases q) (by show ¬ (i < 0 ∨ (arrV _ _ _).slots.size ≤ _); rw [arrV_size]; exact hin) (by show (arrV _ _ _).slots[_]? = _; rw [arrV_read _ _ hlt]; rfl) rfl rfl hd (k H ls locs hl hP hS)
theorem g_getM {idx : Nat} (C : OK l w K cc nl own d mc ms) (hF : Cond.fieldLink own idx RX4 "MOST_OF_SETTING" "[I" ∈ gt) (hd : decode cc pc = .ok (.getstatic idx, 3)) (k : G l w K (pc + 3) lv (.ref w.2.2.2.2.1.1 :: st) σ) : G l w K pc lv st σ := by
  obtain ⟨⟨p, e, R, s, m, args, below, meth, c⟩, ⟨nL, cells, slots⟩, Q, A⟩ := K
  obtain ⟨⟨hx, hb, hml, hown, hts⟩, hK, hj, hA, hST, hlk, hR, hn, hmc, hms⟩ := C
  intro H ls locs hl hP hS
  exact va_gets hx hb hST.1.1 hS hown (hts _ hF) (fun _ q => q) hd (k H ls locs hl hP hS)
theorem g_getMN (C : OK l w K cc nl RX1 d mc ms) (hd : decode cc pc = .ok (.getstatic 50, 3)) (k : G l w K (pc + 3) lv (.ref w.2.2.2.2.1.1 :: st) σ) : G l w K pc lv st σ := by
  obtain ⟨⟨p, e, R, s, m, args, below, meth, c⟩, ⟨nL, cells, slots⟩, Q, A⟩ := K
  obtain ⟨⟨hx, hb, hml, hown, hts⟩, hK, hj, hA, hST, hlk, hR, hn, hmc, hms⟩ := C
  intro H ls locs hl hP hS
  exact va_getsN (host := RX4) (C := RX4) (n := "MOST_OF_SETTING") (d := "[I") hx hb hST.1.1 hS hown (va_Nw.use (w := nestF1) rfl hST.2.2.2.2.2) (fun _ q => q) hd (k H ls locs hl hP hS)
theorem g_getT {idx : Nat} (C : OK l w K cc nl own d mc ms) (hF : Cond.fieldLink own idx RX4 "THREES" "[I" ∈ gt) (hd : decode cc pc = .ok (.getstatic idx, 3)) (k : G l w K (pc + 3) lv (.ref w.2.2.2.2.1.2 :: st) σ) : G l w K pc lv st σ := by
  obtain ⟨⟨p, e, R, s, m, args, below, meth, c⟩, ⟨nL, cells, slots⟩, Q, A⟩ := K
  obtain ⟨⟨hx, hb, hml, hown, hts⟩, hK, hj, hA, hST, hlk, hR, hn, hmc, hms⟩ := C
  intro H ls locs hl hP hS
  exact va_gets hx hb hST.2.1.1 hS hown (hts _ hF) (fun _ q => q) hd (k H ls locs hl hP hS)
theorem g_aldM {i : Int32} (C : OK l w K cc nl own d mc ms) (hin : vp_in i 6) (hd : decode cc pc = .ok (.iaload, 1)) (k : G l w K (pc + 1) lv (.int (mosF i.toNatClampNeg) :: st) σ) : G l w K pc lv (.int i :: .ref w.2.2.2.2.1.1 :: st) σ := by
  obtain ⟨⟨p, e, R, s, m, args, below, meth, c⟩, ⟨nL, cells, slots⟩, Q, A⟩ := K
  obtain ⟨⟨hx, hb, hml, hown, hts⟩, hK, hj, hA, hST, hlk, hR, hn, hmc, hms⟩ := C
  intro H ls locs hl hP hS
  exact va_ti hx hb hST.1.2 hS hin rfl hd (k H ls locs hl hP hS)
theorem g_aldT {i : Int32} (C : OK l w K cc nl own d mc ms) (hin : vp_in i 4) (hd : decode cc pc = .ok (.iaload, 1)) (k : G l w K (pc + 1) lv (.int (thrF i.toNatClampNeg) :: st) σ) : G l w K pc lv (.int i :: .ref w.2.2.2.2.1.2 :: st) σ := by
  obtain ⟨⟨p, e, R, s, m, args, below, meth, c⟩, ⟨nL, cells, slots⟩, Q, A⟩ := K
  obtain ⟨⟨hx, hb, hml, hown, hts⟩, hK, hj, hA, hST, hlk, hR, hn, hmc, hms⟩ := C
  intro H ls locs hl hP hS
  exact va_ti hx hb hST.2.1.2 hS hin rfl hd (k H ls locs hl hP hS)
/-! ===== calls ===== -/
def dOK (y : MethodName) (n : Nat) : Prop := y.cls ≠ "java/lang/invoke/MethodHandle" ∧ y.cls ≠ "java/lang/invoke/VarHandle" ∧ (parseMethodDescriptor y.desc).map (fun d => d.parameters.length) = some n
def MV (own : String) (idx : Nat) (y : MethodName) (bytes : ByteArray) (maxL : Nat) (ret : Option FieldType) (n ci : Nat) : Prop := Cond.methodLink own idx y ∈ gt ∧ Cond.instanceMethod y ∈ gt ∧ Cond.selects y.cls y y ∈ gt ∧ Cond.initialized y.cls ∈ gt ∧ Cond.code y bytes maxL ret ∈ gt ∧ dOK y n ∧ maxL ≤ 40 ∧ ∃ (T : u_T) (Nf : Nat), vwCl[ci]? = some (y.cls, T, Nf)
def MS (own : String) (idx : Nat) (y : MethodName) (bytes : ByteArray) (maxL : Nat) (ret : Option FieldType) (n : Nat) : Prop := Cond.methodLink own idx y ∈ gt ∧ Cond.static y ∈ gt ∧ Cond.initialized y.cls ∈ gt ∧ Cond.code y bytes maxL ret ∈ gt ∧ dOK y n ∧ maxL ≤ 40
def MN (y : MethodName) (bytes : ByteArray) (maxL : Nat) (ret : Option FieldType) (n : Nat) : Prop := Cond.static y ∈ gt ∧ Cond.initialized y.cls ∈ gt ∧ Cond.code y bytes maxL ret ∈ gt ∧ dOK y n ∧ maxL ≤ 40
theorem gt_goodIn {y : MethodName} {bytes : ByteArray} {maxL : Nat} {ret : Option FieldType} (h : Cond.code y bytes maxL ret ∈ gt) : GoodIn gt (Cond.code y bytes maxL ret :: gt) := fun x hx => by
  have hx' : x ∈ gt := (List.mem_cons.mp hx).elim (fun e => e ▸ h) id
  exact ⟨hx', good_of_word (gt_good hx')⟩
theorem mv_w {R : Room} {s : State} {args : Array Value} {own : String} {idx : Nat} {y : MethodName} {bytes : ByteArray} {maxL : Nat} {ret : Option FieldType} {n ci d d' mc ms mc' ms' : Nat} (h : MV own idx y bytes maxL ret n ci) (hts : ∀ x ∈ gt, x.before args s = true) (hR : R = rmv d mc ms) (hd : d' + 1 ≤ d) : CallW R s args own y.cls idx y bytes maxL ret (Cond.code y bytes maxL ret :: gt) (rmv d' mc' ms') mc' ms' n := by
  obtain ⟨h1, h2, h3, h4, h5, h6, h7, -⟩ := h
  refine ⟨callB_of n hts (gt_goodIn h5) rfl rfl rfl (hts _ h4) (hts _ h1) h6 ⟨?_, ?_⟩, hts _ h2, hts _ h3⟩
  · subst hR; exact hd
  · subst hR; show 8 + (maxL + 11) + 64 * d' ≤ 64 * d; omega
theorem ms_w {R : Room} {s : State} {args : Array Value} {own : String} {idx : Nat} {y : MethodName} {bytes : ByteArray} {maxL : Nat} {ret : Option FieldType} {n d d' mc ms mc' ms' : Nat} (h : MS own idx y bytes maxL ret n) (hts : ∀ x ∈ gt, x.before args s = true) (hR : R = rmv d mc ms) (hd : d' + 1 ≤ d) : CallB R s args own idx y bytes maxL ret (Cond.code y bytes maxL ret :: gt) (rmv d' mc' ms') mc' ms' n ∧ (Cond.static y).before args s = true := by
  obtain ⟨h1, h2, h4, h5, h6, h7⟩ := h
  refine ⟨callB_of n hts (gt_goodIn h5) rfl rfl rfl (hts _ h4) (hts _ h1) h6 ⟨?_, ?_⟩, hts _ h2⟩
  · subst hR; exact hd
  · subst hR; show 8 + (maxL + 11) + 64 * d' ≤ 64 * d; omega
theorem mn_w {R : Room} {s : State} {args : Array Value} {own host : String} {idx : Nat} {y : MethodName} {bytes : ByteArray} {maxL : Nat} {ret : Option FieldType} {n d d' mc ms mc' ms' : Nat} (h : MN y bytes maxL ret n) (hl : va_Nw (.methodLinkNest own idx y host) s) (hts : ∀ x ∈ gt, x.before args s = true) (hR : R = rmv d mc ms) (hd : d' + 1 ≤ d) : va_CN R s args own idx y host bytes maxL ret (Cond.code y bytes maxL ret :: gt) (rmv d' mc' ms') mc' ms' n ∧ (Cond.static y).before args s = true ∧ True := by
  obtain ⟨h2, h4, h5, h6, h7⟩ := h
  refine ⟨va_cnB n hts (gt_goodIn h5) rfl rfl rfl hl (hts _ h4) h6 ⟨?_, ?_⟩, hts _ h2, trivial⟩
  · subst hR; exact hd
  · subst hR; show 8 + (maxL + 11) + 64 * d' ≤ 64 * d; omega
theorem pA_sub {A : Nat → Prop} {s : State} {H : Heap} {locs : List Loc} (hj : pj w A) (hA : ∀ q, s.heap.size ≤ q → A q) (hS : va_S A s.heap H locs) : ∀ q, pA w H.size q → A q := by
  rintro q (⟨k, hk, rfl⟩ | h)
  · exact hj.2 k hk
  · exact hA q (Nat.le_trans hS.1 h)
theorem Pin.of {A : Nat → Prop} {s U : State} {H : Heap} {locs : List Loc} (hK : va_K (wD w) vwCl (tyw w) s) (hj : pj w A) (hA : ∀ q, s.heap.size ≤ q → A q) (hST : ST w A s s.heap) (hP : va_P (wD w) vwCl (pw w σ) H) (hS : va_S A s.heap H locs) (hU : U.heap = H) (hW : s.WarmedH U.vm) : Pin w σ H.size U :=
  ⟨by rw [hU], by rw [hU]; exact hP, va_K.moved hW.alike hK, ⟨hj.1, fun _ _ => trivial⟩, by rw [hU]; exact hST.go hW (fun a h1 h2 => hS.2.1 a h1 h2) (pA_sub hj hA hS)⟩

theorem g_callVI {y : MethodName} {bytes : ByteArray} {maxL n idx ci d' k0 : Nat} {ret : Option FieldType} {As rest stk fs : List Value} {post : Int32 → SG → Prop} (C : OK l w K cc nl own d mc ms) (hm : MV own idx y bytes maxL ret n ci) (ct : CtI l w y bytes maxL ret d' 0 0 (.ref (wA w k0) :: As) σ post) (hk : k0 < wN w) (he : shp w k0 (σ k0) = .inr (ci, fs)) (hAs : As.length = n) (hd' : d' + 1 ≤ d) (hst : stk = As.reverse ++ .ref (wA w k0) :: rest) (hcat : (rest.map fun v => v.category).sum ≤ 8) (hd : decode cc pc = .ok (.invokevirtual idx, 3)) (k : ∀ (r : Int32) (τ : SG), post r τ → G l w K (pc + 3) lv (.int r :: rest) τ) : G l w K pc lv stk σ := by
  obtain ⟨⟨p, e, R, s, m, args, below, meth, c⟩, ⟨nL, cells, slots⟩, Q, A⟩ := K
  obtain ⟨⟨hx, hb, hml, hown, hts⟩, hK, hj, hA, hST, hlk, hR, hn, hmc, hms⟩ := C
  subst hst
  intro H ls locs hl hP hS
  have hT := hm.2.2.2.2.2.2.2
  obtain ⟨T, Nf, hT⟩ := hT
  have hF := pA_sub hj hA hS
  refine va_calli (A1 := pA w H.size) (va_runV (As := As) (rest := rest) (C := y.cls) (b := wA w k0) ⟨hx, hb, hml, hown, hts⟩ (ct H.size) (mv_w hm hts hR hd') ⟨Pin.blind, va_recv hK hP hT (pw_a hk he), fun U hU hW => ⟨rfl, Pin.of hK hj hA hST hP hS hU hW⟩⟩ rfl hAs hl.1 rfl (lv_room hcat) hd ⟨?_, ?_⟩) hS (fun q _ h => hF q h) hF (fun r τ t H1 locs1 ht hvm hw hB hz1 hk1 hS1 => by subst ht; exact k r τ hw _ ls locs1 hl hB hS1)
  · subst hR; exact hmc
  · subst hR; exact hms
theorem g_callSI {y : MethodName} {bytes : ByteArray} {maxL n idx d' : Nat} {ret : Option FieldType} {As rest stk : List Value} {post : Int32 → SG → Prop} (C : OK l w K cc nl own d mc ms) (hm : MS own idx y bytes maxL ret n) (ct : CtI l w y bytes maxL ret d' 0 0 As σ post) (hAs : As.length = n) (hd' : d' + 1 ≤ d) (hst : stk = As.reverse ++ rest) (hcat : (rest.map fun v => v.category).sum ≤ 8) (hd : decode cc pc = .ok (.invokestatic idx, 3)) (k : ∀ (r : Int32) (τ : SG), post r τ → G l w K (pc + 3) lv (.int r :: rest) τ) : G l w K pc lv stk σ := by
  obtain ⟨⟨p, e, R, s, m, args, below, meth, c⟩, ⟨nL, cells, slots⟩, Q, A⟩ := K
  obtain ⟨⟨hx, hb, hml, hown, hts⟩, hK, hj, hA, hST, hlk, hR, hn, hmc, hms⟩ := C
  subst hst
  intro H ls locs hl hP hS
  have hF := pA_sub hj hA hS
  refine va_calli (A1 := pA w H.size) (va_runS (As := As) (rest := rest) ⟨hx, hb, hml, hown, hts⟩ (ct H.size) (ms_w hm hts hR hd') ⟨Pin.blind, fun U hU hW => ⟨rfl, Pin.of hK hj hA hST hP hS hU hW⟩⟩ rfl hAs hl.1 rfl (lv_room hcat) hd ⟨?_, ?_⟩) hS (fun q _ h => hF q h) hF (fun r τ t H1 locs1 ht hvm hw hB hz1 hk1 hS1 => by subst ht; exact k r τ hw _ ls locs1 hl hB hS1)
  · subst hR; exact hmc
  · subst hR; exact hms
theorem g_callVV {y : MethodName} {bytes : ByteArray} {maxL n idx ci d' k0 : Nat}  {As rest stk fs : List Value} {post : SG → Prop} (C : OK l w K cc nl own d mc ms) (hm : MV own idx y bytes maxL none n ci) (ct : CtV l w y bytes maxL d' 0 0 (.ref (wA w k0) :: As) σ post) (hk : k0 < wN w) (he : shp w k0 (σ k0) = .inr (ci, fs)) (hAs : As.length = n) (hd' : d' + 1 ≤ d) (hst : stk = As.reverse ++ .ref (wA w k0) :: rest) (hcat : (rest.map fun v => v.category).sum ≤ 8) (hd : decode cc pc = .ok (.invokevirtual idx, 3)) (k : ∀ τ : SG, post τ → G l w K (pc + 3) lv rest τ) : G l w K pc lv stk σ := by
  obtain ⟨⟨p, e, R, s, m, args, below, meth, c⟩, ⟨nL, cells, slots⟩, Q, A⟩ := K
  obtain ⟨⟨hx, hb, hml, hown, hts⟩, hK, hj, hA, hST, hlk, hR, hn, hmc, hms⟩ := C
  subst hst
  intro H ls locs hl hP hS
  have hT := hm.2.2.2.2.2.2.2
  obtain ⟨T, Nf, hT⟩ := hT
  have hF := pA_sub hj hA hS
  refine va_callv (A1 := pA w H.size) (va_runV (As := As) (rest := rest) (C := y.cls) (b := wA w k0) ⟨hx, hb, hml, hown, hts⟩ (ct H.size) (mv_w hm hts hR hd') ⟨Pin.blind, va_recv hK hP hT (pw_a hk he), fun U hU hW => ⟨rfl, Pin.of hK hj hA hST hP hS hU hW⟩⟩ rfl hAs hl.1 rfl (lv_room hcat) hd ⟨?_, ?_⟩) hS (fun q _ h => hF q h) hF (fun τ t H1 locs1 ht hvm hw hB hz1 hk1 hS1 => by subst ht; exact k τ hw _ ls locs1 hl hB hS1)
  · subst hR; exact hmc
  · subst hR; exact hms
theorem g_callSV {y : MethodName} {bytes : ByteArray} {maxL n idx d' : Nat}  {As rest stk : List Value} {post : SG → Prop} (C : OK l w K cc nl own d mc ms) (hm : MS own idx y bytes maxL none n) (ct : CtV l w y bytes maxL d' 0 0 As σ post) (hAs : As.length = n) (hd' : d' + 1 ≤ d) (hst : stk = As.reverse ++ rest) (hcat : (rest.map fun v => v.category).sum ≤ 8) (hd : decode cc pc = .ok (.invokestatic idx, 3)) (k : ∀ τ : SG, post τ → G l w K (pc + 3) lv rest τ) : G l w K pc lv stk σ := by
  obtain ⟨⟨p, e, R, s, m, args, below, meth, c⟩, ⟨nL, cells, slots⟩, Q, A⟩ := K
  obtain ⟨⟨hx, hb, hml, hown, hts⟩, hK, hj, hA, hST, hlk, hR, hn, hmc, hms⟩ := C
  subst hst
  intro H ls locs hl hP hS
  have hF := pA_sub hj hA hS
  refine va_callv (A1 := pA w H.size) (va_runS (As := As) (rest := rest) ⟨hx, hb, hml, hown, hts⟩ (ct H.size) (ms_w hm hts hR hd') ⟨Pin.blind, fun U hU hW => ⟨rfl, Pin.of hK hj hA hST hP hS hU hW⟩⟩ rfl hAs hl.1 rfl (lv_room hcat) hd ⟨?_, ?_⟩) hS (fun q _ h => hF q h) hF (fun τ t H1 locs1 ht hvm hw hB hz1 hk1 hS1 => by subst ht; exact k τ hw _ ls locs1 hl hB hS1)
  · subst hR; exact hmc
  · subst hR; exact hms
theorem g_callVL {y : MethodName} {bytes : ByteArray} {maxL n idx ci d' k0 : Nat}  {As rest stk fs : List Value} {post : Int64 → SG → Prop} (C : OK l w K cc nl own d mc ms) (hm : MV own idx y bytes maxL (some .long) n ci) (ct : CtL l w y bytes maxL d' 0 0 (.ref (wA w k0) :: As) σ post) (hk : k0 < wN w) (he : shp w k0 (σ k0) = .inr (ci, fs)) (hAs : As.length = n) (hd' : d' + 1 ≤ d) (hst : stk = As.reverse ++ .ref (wA w k0) :: rest) (hcat : (rest.map fun v => v.category).sum ≤ 8) (hd : decode cc pc = .ok (.invokevirtual idx, 3)) (k : ∀ (r : Int64) (τ : SG), post r τ → G l w K (pc + 3) lv (.long r :: rest) τ) : G l w K pc lv stk σ := by
  obtain ⟨⟨p, e, R, s, m, args, below, meth, c⟩, ⟨nL, cells, slots⟩, Q, A⟩ := K
  obtain ⟨⟨hx, hb, hml, hown, hts⟩, hK, hj, hA, hST, hlk, hR, hn, hmc, hms⟩ := C
  subst hst
  intro H ls locs hl hP hS
  have hT := hm.2.2.2.2.2.2.2
  obtain ⟨T, Nf, hT⟩ := hT
  have hF := pA_sub hj hA hS
  refine va_calll (A1 := pA w H.size) (va_runV (As := As) (rest := rest) (C := y.cls) (b := wA w k0) ⟨hx, hb, hml, hown, hts⟩ (ct H.size) (mv_w hm hts hR hd') ⟨Pin.blind, va_recv hK hP hT (pw_a hk he), fun U hU hW => ⟨rfl, Pin.of hK hj hA hST hP hS hU hW⟩⟩ rfl hAs hl.1 rfl (lv_room hcat) hd ⟨?_, ?_⟩) hS (fun q _ h => hF q h) hF (fun r τ t H1 locs1 ht hvm hw hB hz1 hk1 hS1 => by subst ht; exact k r τ hw _ ls locs1 hl hB hS1)
  · subst hR; exact hmc
  · subst hR; exact hms
theorem g_callSL {y : MethodName} {bytes : ByteArray} {maxL n idx d' : Nat}  {As rest stk : List Value} {post : Int64 → SG → Prop} (C : OK l w K cc nl own d mc ms) (hm : MS own idx y bytes maxL (some .long) n) (ct : CtL l w y bytes maxL d' 0 0 As σ post) (hAs : As.length = n) (hd' : d' + 1 ≤ d) (hst : stk = As.reverse ++ rest) (hcat : (rest.map fun v => v.category).sum ≤ 8) (hd : decode cc pc = .ok (.invokestatic idx, 3)) (k : ∀ (r : Int64) (τ : SG), post r τ → G l w K (pc + 3) lv (.long r :: rest) τ) : G l w K pc lv stk σ := by
  obtain ⟨⟨p, e, R, s, m, args, below, meth, c⟩, ⟨nL, cells, slots⟩, Q, A⟩ := K
  obtain ⟨⟨hx, hb, hml, hown, hts⟩, hK, hj, hA, hST, hlk, hR, hn, hmc, hms⟩ := C
  subst hst
  intro H ls locs hl hP hS
  have hF := pA_sub hj hA hS
  refine va_calll (A1 := pA w H.size) (va_runS (As := As) (rest := rest) ⟨hx, hb, hml, hown, hts⟩ (ct H.size) (ms_w hm hts hR hd') ⟨Pin.blind, fun U hU hW => ⟨rfl, Pin.of hK hj hA hST hP hS hU hW⟩⟩ rfl hAs hl.1 rfl (lv_room hcat) hd ⟨?_, ?_⟩) hS (fun q _ h => hF q h) hF (fun r τ t H1 locs1 ht hvm hw hB hz1 hk1 hS1 => by subst ht; exact k r τ hw _ ls locs1 hl hB hS1)
  · subst hR; exact hmc
  · subst hR; exact hms
theorem g_callNI {y : MethodName} {bytes : ByteArray} {maxL n idx d' : Nat} {host : String} {ret : Option FieldType} {As rest stk : List Value} {post : Int32 → SG → Prop} (C : OK l w K cc nl own d mc ms) (hm : MN y bytes maxL ret n) (hnest : ∀ (U : State) (A : Nat → Prop), ST w A U U.heap → va_Nw (.methodLinkNest own idx y host) U) (ct : CtI l w y bytes maxL ret d' 0 0 As σ post) (hAs : As.length = n) (hd' : d' + 1 ≤ d) (hst : stk = As.reverse ++ rest) (hcat : (rest.map fun v => v.category).sum ≤ 8) (hd : decode cc pc = .ok (.invokestatic idx, 3)) (k : ∀ (r : Int32) (τ : SG), post r τ → G l w K (pc + 3) lv (.int r :: rest) τ) : G l w K pc lv stk σ := by
  obtain ⟨⟨p, e, R, s, m, args, below, meth, c⟩, ⟨nL, cells, slots⟩, Q, A⟩ := K
  obtain ⟨⟨hx, hb, hml, hown, hts⟩, hK, hj, hA, hST, hlk, hR, hn, hmc, hms⟩ := C
  subst hst
  intro H ls locs hl hP hS
  have hF := pA_sub hj hA hS
  refine va_calli (A1 := pA w H.size) (va_runSN (As := As) (rest := rest) ⟨hx, hb, hml, hown, hts⟩ (ct H.size) (mn_w hm (hnest s A hST) hts hR hd') ⟨Pin.blind, fun U hU hW => ⟨rfl, Pin.of hK hj hA hST hP hS hU hW⟩⟩ rfl hAs hl.1 rfl (lv_room hcat) hd ⟨?_, ?_⟩) hS (fun q _ h => hF q h) hF (fun r τ t H1 locs1 ht hvm hw hB hz1 hk1 hS1 => by subst ht; exact k r τ hw _ ls locs1 hl hB hS1)
  · subst hR; exact hmc
  · subst hR; exact hms
theorem g_min {idx : Nat} {x y : Int32} (C : OK l w K cc nl own d mc ms) (h1 : Cond.methodLink own idx Lib.Math.min.name ∈ gt) (h2 : Cond.static Lib.Math.min.name ∈ gt) (h3 : Cond.initialized "java/lang/Math" ∈ gt) (h4 : Cond.code Lib.Math.min.name Lib.Math.min.code 2 (some .int) ∈ gt) (hd1 : 1 ≤ d) (hcat : (st.map fun v => v.category).sum ≤ 8) (hd : decode cc pc = .ok (.invokestatic idx, 3)) (k : G l w K (pc + 3) lv (.int (if y < x then y else x) :: st) σ) : G l w K pc lv (.int y :: .int x :: st) σ := by
  obtain ⟨⟨p, e, R, s, m, args, below, meth, c⟩, ⟨nL, cells, slots⟩, Q, A⟩ := K
  obtain ⟨⟨hx, hb, hml, hown, hts⟩, hK, hj, hA, hST, hlk, hR, hn, hmc, hms⟩ := C
  intro H ls locs hl hP hS
  refine va_mmin hx hb (by rw [hml]; exact hl.1.symm) hown (hts _ h1) (hts _ h2) (hts _ h3) (hts _ h4) ?_ ?_ ?_ ?_ hd (k H ls locs hl hP hS)
  · subst hR; exact hd1
  · subst hR; show _ ≤ 64 * d; omega
  · subst hR; exact hmc
  · subst hR; exact hms
theorem g_max {idx : Nat} {x y : Int32} (C : OK l w K cc nl own d mc ms) (h1 : Cond.methodLink own idx Lib.Math.max.name ∈ gt) (h2 : Cond.static Lib.Math.max.name ∈ gt) (h3 : Cond.initialized "java/lang/Math" ∈ gt) (h4 : Cond.code Lib.Math.max.name Lib.Math.max.code 2 (some .int) ∈ gt) (hd1 : 1 ≤ d) (hcat : (st.map fun v => v.category).sum ≤ 8) (hd : decode cc pc = .ok (.invokestatic idx, 3)) (k : G l w K (pc + 3) lv (.int (if x < y then y else x) :: st) σ) : G l w K pc lv (.int y :: .int x :: st) σ := by
  obtain ⟨⟨p, e, R, s, m, args, below, meth, c⟩, ⟨nL, cells, slots⟩, Q, A⟩ := K
  obtain ⟨⟨hx, hb, hml, hown, hts⟩, hK, hj, hA, hST, hlk, hR, hn, hmc, hms⟩ := C
  intro H ls locs hl hP hS
  refine va_mmax hx hb (by rw [hml]; exact hl.1.symm) hown (hts _ h1) (hts _ h2) (hts _ h3) (hts _ h4) ?_ ?_ ?_ ?_ hd (k H ls locs hl hP hS)
  · subst hR; exact hd1
  · subst hR; show _ ≤ 64 * d; omega
  · subst hR; exact hmc
  · subst hR; exact hms
end GR
end
section
theorem inX0g : ∀ x ∈ u_ws RX0 TX0 2, x ∈ gt := by decide +kernel
theorem inX1g : ∀ x ∈ u_ws RX1 TX1 7, x ∈ gt := by decide +kernel
theorem inX2g : ∀ x ∈ u_ws RX2 TX2 2, x ∈ gt := by decide +kernel
theorem inX3g : ∀ x ∈ u_ws RX3 TX3 3, x ∈ gt := by decide +kernel
theorem inX4g : ∀ x ∈ u_ws RX4 TX4 12, x ∈ gt := by decide +kernel
theorem inX5g : ∀ x ∈ u_ws RX5 TX5 28, x ∈ gt := by decide +kernel
theorem lk_X4_12 : Cond.fieldLink RX4 12 RX4 (TX4 0).2.1 (TX4 0).2.2.1 ∈ gt := (gt_in (w := Cond.fieldLink RX4 12 RX4 "here" "LAlwaysYesterdays$Household;") 150 (by decide +kernel) (by decide +kernel))
theorem fl_X4_12 : FL RX4 12 4 0 := ⟨RX4, TX4, 12, rfl, by decide, inX4g, lk_X4_12⟩
theorem fs_X4_12 : FS RX4 12 4 0 := ⟨RX4, TX4, 12, rfl, rfl⟩
theorem lk_X4_16 : Cond.fieldLink RX4 16 RX4 (TX4 1).2.1 (TX4 1).2.2.1 ∈ gt := (gt_in (w := Cond.fieldLink RX4 16 RX4 "kept" "LAlwaysYesterdays$Household;") 151 (by decide +kernel) (by decide +kernel))
theorem fl_X4_16 : FL RX4 16 4 1 := ⟨RX4, TX4, 12, rfl, by decide, inX4g, lk_X4_16⟩
theorem fs_X4_16 : FS RX4 16 4 1 := ⟨RX4, TX4, 12, rfl, rfl⟩
theorem lk_X4_19 : Cond.fieldLink RX4 19 RX4 (TX4 2).2.1 (TX4 2).2.2.1 ∈ gt := (gt_in (w := Cond.fieldLink RX4 19 RX4 "mind" "LAlwaysYesterdays$Household;") 152 (by decide +kernel) (by decide +kernel))
theorem fl_X4_19 : FL RX4 19 4 2 := ⟨RX4, TX4, 12, rfl, by decide, inX4g, lk_X4_19⟩
theorem fs_X4_19 : FS RX4 19 4 2 := ⟨RX4, TX4, 12, rfl, rfl⟩
theorem lk_X4_25 : Cond.fieldLink RX4 25 RX4 (TX4 3).2.1 (TX4 3).2.2.1 ∈ gt := (gt_in (w := Cond.fieldLink RX4 25 RX4 "tally" "LAlwaysYesterdays$Tally;") 153 (by decide +kernel) (by decide +kernel))
theorem fl_X4_25 : FL RX4 25 4 3 := ⟨RX4, TX4, 12, rfl, by decide, inX4g, lk_X4_25⟩
theorem fs_X4_25 : FS RX4 25 4 3 := ⟨RX4, TX4, 12, rfl, rfl⟩
theorem lk_X4_32 : Cond.fieldLink RX4 32 RX4 (TX4 4).2.1 (TX4 4).2.2.1 ∈ gt := (gt_in (w := Cond.fieldLink RX4 32 RX4 "choice" "LAlwaysYesterdays$Choice;") 154 (by decide +kernel) (by decide +kernel))
theorem fl_X4_32 : FL RX4 32 4 4 := ⟨RX4, TX4, 12, rfl, by decide, inX4g, lk_X4_32⟩
theorem fs_X4_32 : FS RX4 32 4 4 := ⟨RX4, TX4, 12, rfl, rfl⟩
theorem lk_X4_39 : Cond.fieldLink RX4 39 RX4 (TX4 5).2.1 (TX4 5).2.2.1 ∈ gt := (gt_in (w := Cond.fieldLink RX4 39 RX4 "letters" "LAlwaysYesterdays$Letters;") 155 (by decide +kernel) (by decide +kernel))
theorem fl_X4_39 : FL RX4 39 4 5 := ⟨RX4, TX4, 12, rfl, by decide, inX4g, lk_X4_39⟩
theorem fs_X4_39 : FS RX4 39 4 5 := ⟨RX4, TX4, 12, rfl, rfl⟩
theorem lk_X4_43 : Cond.fieldLink RX4 43 RX4 (TX4 6).2.1 (TX4 6).2.2.1 ∈ gt := (gt_in (w := Cond.fieldLink RX4 43 RX4 "numbers" "[I") 156 (by decide +kernel) (by decide +kernel))
theorem fl_X4_43 : FL RX4 43 4 6 := ⟨RX4, TX4, 12, rfl, by decide, inX4g, lk_X4_43⟩
theorem fs_X4_43 : FS RX4 43 4 6 := ⟨RX4, TX4, 12, rfl, rfl⟩
theorem lk_X4_47 : Cond.fieldLink RX4 47 RX4 (TX4 7).2.1 (TX4 7).2.2.1 ∈ gt := (gt_in (w := Cond.fieldLink RX4 47 RX4 "refusals" "[I") 157 (by decide +kernel) (by decide +kernel))
theorem fl_X4_47 : FL RX4 47 4 7 := ⟨RX4, TX4, 12, rfl, by decide, inX4g, lk_X4_47⟩
theorem fs_X4_47 : FS RX4 47 4 7 := ⟨RX4, TX4, 12, rfl, rfl⟩
theorem lk_X4_50 : Cond.fieldLink RX4 50 RX4 (TX4 8).2.1 (TX4 8).2.2.1 ∈ gt := (gt_in (w := Cond.fieldLink RX4 50 RX4 "byShares" "[I") 158 (by decide +kernel) (by decide +kernel))
theorem fl_X4_50 : FL RX4 50 4 8 := ⟨RX4, TX4, 12, rfl, by decide, inX4g, lk_X4_50⟩
theorem fs_X4_50 : FS RX4 50 4 8 := ⟨RX4, TX4, 12, rfl, rfl⟩
theorem lk_X4_53 : Cond.fieldLink RX4 53 RX4 (TX4 9).2.1 (TX4 9).2.2.1 ∈ gt := (gt_in (w := Cond.fieldLink RX4 53 RX4 "byDays" "[I") 159 (by decide +kernel) (by decide +kernel))
theorem fl_X4_53 : FL RX4 53 4 9 := ⟨RX4, TX4, 12, rfl, by decide, inX4g, lk_X4_53⟩
theorem fs_X4_53 : FS RX4 53 4 9 := ⟨RX4, TX4, 12, rfl, rfl⟩
set_option maxRecDepth 100000 in
theorem cw_yX4_outside : Cond.code yX4_outside cX4_outside 3 (some .int) ∈ gt := (gt_in (w := Cond.code yX4_outside cX4_outside 3 (some .int)) 193 rfl (by decide +kernel))
theorem dk_yX4_outside : dOK yX4_outside 3 := ⟨by decide, by decide, by decide +kernel⟩
theorem ini_RX4 : Cond.initialized RX4 ∈ gt := (gt_in (w := Cond.initialized RX4) 39 (by decide +kernel) (by decide +kernel))
theorem ms_X4_56 : MS RX4 56 yX4_outside cX4_outside 3 (some .int) 3 := ⟨(gt_in (w := Cond.methodLink RX4 56 yX4_outside) 191 (by decide +kernel) (by decide +kernel)), (gt_in (w := Cond.static yX4_outside) 192 (by decide +kernel) (by decide +kernel)), ini_RX4, cw_yX4_outside, dk_yX4_outside, by decide⟩
theorem lk_X4_60 : Cond.fieldLink RX4 60 RX2 (TX2 1).2.1 (TX2 1).2.2.1 ∈ gt := (gt_in (w := Cond.fieldLink RX4 60 RX2 "many" "I") 143 (by decide +kernel) (by decide +kernel))
theorem fl_X4_60 : FL RX4 60 2 1 := ⟨RX2, TX2, 2, rfl, by decide, inX2g, lk_X4_60⟩
theorem fs_X4_60 : FS RX4 60 2 1 := ⟨RX2, TX2, 2, rfl, rfl⟩
set_option maxRecDepth 100000 in
theorem cw_yX4_refuse : Cond.code yX4_refuse cX4_refuse 2 (some .int) ∈ gt := (gt_in (w := Cond.code yX4_refuse cX4_refuse 2 (some .int)) 197 rfl (by decide +kernel))
theorem dk_yX4_refuse : dOK yX4_refuse 1 := ⟨by decide, by decide, by decide +kernel⟩
theorem mv_X4_64 : MV RX4 64 yX4_refuse cX4_refuse 2 (some .int) 1 4 := ⟨(gt_in (w := Cond.methodLink RX4 64 yX4_refuse) 194 (by decide +kernel) (by decide +kernel)), (gt_in (w := Cond.instanceMethod yX4_refuse) 196 (by decide +kernel) (by decide +kernel)), (gt_in (w := Cond.selects yX4_refuse.cls yX4_refuse yX4_refuse) 0 (by decide +kernel) (by decide +kernel)), ini_RX4, cw_yX4_refuse, dk_yX4_refuse, by decide, TX4, 12, rfl⟩
set_option maxRecDepth 100000 in
theorem cw_yX2_add : Cond.code yX2_add cX2_add 2 none ∈ gt := (gt_in (w := Cond.code yX2_add cX2_add 2 none) 204 rfl (by decide +kernel))
theorem dk_yX2_add : dOK yX2_add 1 := ⟨by decide, by decide, by decide +kernel⟩
theorem ini_RX2 : Cond.initialized RX2 ∈ gt := (gt_in (w := Cond.initialized RX2) 43 (by decide +kernel) (by decide +kernel))
theorem mv_X4_68 : MV RX4 68 yX2_add cX2_add 2 none 1 2 := ⟨(gt_in (w := Cond.methodLink RX4 68 yX2_add) 201 (by decide +kernel) (by decide +kernel)), (gt_in (w := Cond.instanceMethod yX2_add) 202 (by decide +kernel) (by decide +kernel)), (gt_in (w := Cond.selects yX2_add.cls yX2_add yX2_add) 203 (by decide +kernel) (by decide +kernel)), ini_RX2, cw_yX2_add, dk_yX2_add, by decide, TX2, 2, rfl⟩
set_option maxRecDepth 100000 in
theorem cw_yX2_wrongPlace : Cond.code yX2_wrongPlace cX2_wrongPlace 5 (some .int) ∈ gt := (gt_in (w := Cond.code yX2_wrongPlace cX2_wrongPlace 5 (some .int)) 212 rfl (by decide +kernel))
theorem dk_yX2_wrongPlace : dOK yX2_wrongPlace 0 := ⟨by decide, by decide, by decide +kernel⟩
theorem mv_X4_72 : MV RX4 72 yX2_wrongPlace cX2_wrongPlace 5 (some .int) 0 2 := ⟨(gt_in (w := Cond.methodLink RX4 72 yX2_wrongPlace) 209 (by decide +kernel) (by decide +kernel)), (gt_in (w := Cond.instanceMethod yX2_wrongPlace) 210 (by decide +kernel) (by decide +kernel)), (gt_in (w := Cond.selects yX2_wrongPlace.cls yX2_wrongPlace yX2_wrongPlace) 211 (by decide +kernel) (by decide +kernel)), ini_RX2, cw_yX2_wrongPlace, dk_yX2_wrongPlace, by decide, TX2, 2, rfl⟩
set_option maxRecDepth 100000 in
theorem cw_yX4_becomeHouse : Cond.code yX4_becomeHouse cX4_becomeHouse 4 (some .int) ∈ gt := (gt_in (w := Cond.code yX4_becomeHouse cX4_becomeHouse 4 (some .int)) 344 rfl (by decide +kernel))
theorem dk_yX4_becomeHouse : dOK yX4_becomeHouse 0 := ⟨by decide, by decide, by decide +kernel⟩
theorem mv_X4_76 : MV RX4 76 yX4_becomeHouse cX4_becomeHouse 4 (some .int) 0 4 := ⟨(gt_in (w := Cond.methodLink RX4 76 yX4_becomeHouse) 341 (by decide +kernel) (by decide +kernel)), (gt_in (w := Cond.instanceMethod yX4_becomeHouse) 343 (by decide +kernel) (by decide +kernel)), (gt_in (w := Cond.selects yX4_becomeHouse.cls yX4_becomeHouse yX4_becomeHouse) 1 (by decide +kernel) (by decide +kernel)), ini_RX4, cw_yX4_becomeHouse, dk_yX4_becomeHouse, by decide, TX4, 12, rfl⟩
theorem fp_X4_60 : FP RX4 60 2 1 .int := ⟨RX2, TX2, 2, tyX2, rfl, by decide, inX2g, lk_X4_60, tyX2_ok, nmX2, rfl, by decide +kernel, rfl⟩
set_option maxRecDepth 100000 in
theorem cw_yX1_has : Cond.code yX1_has cX1_has 2 (some .boolean) ∈ gt := (gt_in (w := Cond.code yX1_has cX1_has 2 (some .boolean)) 447 rfl (by decide +kernel))
theorem dk_yX1_has : dOK yX1_has 1 := ⟨by decide, by decide, by decide +kernel⟩
theorem ini_RX1 : Cond.initialized RX1 ∈ gt := (gt_in (w := Cond.initialized RX1) 40 (by decide +kernel) (by decide +kernel))
theorem mv_X4_79 : MV RX4 79 yX1_has cX1_has 2 (some .boolean) 1 1 := ⟨(gt_in (w := Cond.methodLink RX4 79 yX1_has) 444 (by decide +kernel) (by decide +kernel)), (gt_in (w := Cond.instanceMethod yX1_has) 445 (by decide +kernel) (by decide +kernel)), (gt_in (w := Cond.selects yX1_has.cls yX1_has yX1_has) 446 (by decide +kernel) (by decide +kernel)), ini_RX1, cw_yX1_has, dk_yX1_has, by decide, TX1, 7, rfl⟩
set_option maxRecDepth 100000 in
theorem cw_yX4_within : Cond.code yX4_within cX4_within 3 (some .boolean) ∈ gt := (gt_in (w := Cond.code yX4_within cX4_within 3 (some .boolean)) 200 rfl (by decide +kernel))
theorem dk_yX4_within : dOK yX4_within 3 := ⟨by decide, by decide, by decide +kernel⟩
theorem ms_X4_83 : MS RX4 83 yX4_within cX4_within 3 (some .boolean) 3 := ⟨(gt_in (w := Cond.methodLink RX4 83 yX4_within) 198 (by decide +kernel) (by decide +kernel)), (gt_in (w := Cond.static yX4_within) 199 (by decide +kernel) (by decide +kernel)), ini_RX4, cw_yX4_within, dk_yX4_within, by decide⟩
theorem lk_X4_87 : Cond.fieldLink RX4 87 RX1 (TX1 3).2.1 (TX1 3).2.2.1 ∈ gt := (gt_in (w := Cond.fieldLink RX4 87 RX1 "eaters" "[[I") 77 (by decide +kernel) (by decide +kernel))
theorem fl_X4_87 : FL RX4 87 1 3 := ⟨RX1, TX1, 7, rfl, by decide, inX1g, lk_X4_87⟩
theorem fs_X4_87 : FS RX4 87 1 3 := ⟨RX1, TX1, 7, rfl, rfl⟩
set_option maxRecDepth 100000 in
theorem cw_yX4_isAge : Cond.code yX4_isAge cX4_isAge 1 (some .boolean) ∈ gt := (gt_in (w := Cond.code yX4_isAge cX4_isAge 1 (some .boolean)) 383 rfl (by decide +kernel))
theorem dk_yX4_isAge : dOK yX4_isAge 1 := ⟨by decide, by decide, by decide +kernel⟩
theorem ms_X4_91 : MS RX4 91 yX4_isAge cX4_isAge 1 (some .boolean) 1 := ⟨(gt_in (w := Cond.methodLink RX4 91 yX4_isAge) 452 (by decide +kernel) (by decide +kernel)), (gt_in (w := Cond.static yX4_isAge) 382 (by decide +kernel) (by decide +kernel)), ini_RX4, cw_yX4_isAge, dk_yX4_isAge, by decide⟩
theorem lk_X4_94 : Cond.fieldLink RX4 94 RX1 (TX1 0).2.1 (TX1 0).2.2.1 ∈ gt := (gt_in (w := Cond.fieldLink RX4 94 RX1 "slices" "[I") 70 (by decide +kernel) (by decide +kernel))
theorem fl_X4_94 : FL RX4 94 1 0 := ⟨RX1, TX1, 7, rfl, by decide, inX1g, lk_X4_94⟩
theorem fs_X4_94 : FS RX4 94 1 0 := ⟨RX1, TX1, 7, rfl, rfl⟩
theorem lk_X4_97 : Cond.fieldLink RX4 97 RX1 (TX1 1).2.1 (TX1 1).2.2.1 ∈ gt := (gt_in (w := Cond.fieldLink RX4 97 RX1 "opens" "[I") 72 (by decide +kernel) (by decide +kernel))
theorem fl_X4_97 : FL RX4 97 1 1 := ⟨RX1, TX1, 7, rfl, by decide, inX1g, lk_X4_97⟩
theorem fs_X4_97 : FS RX4 97 1 1 := ⟨RX1, TX1, 7, rfl, rfl⟩
theorem gs_X4_100 : Cond.fieldLink RX4 100 RX4 "MOST_OF_SETTING" "[I" ∈ gt := (gt_in (w := Cond.fieldLink RX4 100 RX4 "MOST_OF_SETTING" "[I" ) 461 (by decide +kernel) (by decide +kernel))
theorem lk_X4_103 : Cond.fieldLink RX4 103 RX1 (TX1 2).2.1 (TX1 2).2.2.1 ∈ gt := (gt_in (w := Cond.fieldLink RX4 103 RX1 "settings" "[I") 75 (by decide +kernel) (by decide +kernel))
theorem fl_X4_103 : FL RX4 103 1 2 := ⟨RX1, TX1, 7, rfl, by decide, inX1g, lk_X4_103⟩
theorem fs_X4_103 : FS RX4 103 1 2 := ⟨RX1, TX1, 7, rfl, rfl⟩
set_option maxRecDepth 100000 in
theorem cw_yX1_worthTo : Cond.code yX1_worthTo cX1_worthTo 8 (some .int) ∈ gt := (gt_in (w := Cond.code yX1_worthTo cX1_worthTo 8 (some .int)) 422 rfl (by decide +kernel))
theorem dk_yX1_worthTo : dOK yX1_worthTo 2 := ⟨by decide, by decide, by decide +kernel⟩
theorem mv_X4_106 : MV RX4 106 yX1_worthTo cX1_worthTo 8 (some .int) 2 1 := ⟨(gt_in (w := Cond.methodLink RX4 106 yX1_worthTo) 466 (by decide +kernel) (by decide +kernel)), (gt_in (w := Cond.instanceMethod yX1_worthTo) 420 (by decide +kernel) (by decide +kernel)), (gt_in (w := Cond.selects yX1_worthTo.cls yX1_worthTo yX1_worthTo) 421 (by decide +kernel) (by decide +kernel)), ini_RX1, cw_yX1_worthTo, dk_yX1_worthTo, by decide, TX1, 7, rfl⟩
theorem lk_X4_110 : Cond.fieldLink RX4 110 RX1 (TX1 5).2.1 (TX1 5).2.2.1 ∈ gt := (gt_in (w := Cond.fieldLink RX4 110 RX1 "day" "I") 81 (by decide +kernel) (by decide +kernel))
theorem fl_X4_110 : FL RX4 110 1 5 := ⟨RX1, TX1, 7, rfl, by decide, inX1g, lk_X4_110⟩
theorem fs_X4_110 : FS RX4 110 1 5 := ⟨RX1, TX1, 7, rfl, rfl⟩
theorem cs_X4_113 : Cond.constant RX4 113 1000000000 ∈ gt := (gt_in (w := Cond.constant RX4 113 1000000000) 471 (by decide +kernel) (by decide +kernel))
set_option maxRecDepth 100000 in
theorem cw_yX3_clear : Cond.code yX3_clear cX3_clear 1 none ∈ gt := (gt_in (w := Cond.code yX3_clear cX3_clear 1 none) 475 rfl (by decide +kernel))
theorem dk_yX3_clear : dOK yX3_clear 0 := ⟨by decide, by decide, by decide +kernel⟩
theorem ini_RX3 : Cond.initialized RX3 ∈ gt := (gt_in (w := Cond.initialized RX3) 41 (by decide +kernel) (by decide +kernel))
theorem mv_X4_114 : MV RX4 114 yX3_clear cX3_clear 1 none 0 3 := ⟨(gt_in (w := Cond.methodLink RX4 114 yX3_clear) 472 (by decide +kernel) (by decide +kernel)), (gt_in (w := Cond.instanceMethod yX3_clear) 473 (by decide +kernel) (by decide +kernel)), (gt_in (w := Cond.selects yX3_clear.cls yX3_clear yX3_clear) 474 (by decide +kernel) (by decide +kernel)), ini_RX3, cw_yX3_clear, dk_yX3_clear, by decide, TX3, 3, rfl⟩
set_option maxRecDepth 100000 in
theorem cw_yX1_passDay : Cond.code yX1_passDay cX1_passDay 3 none ∈ gt := (gt_in (w := Cond.code yX1_passDay cX1_passDay 3 none) 393 rfl (by decide +kernel))
theorem dk_yX1_passDay : dOK yX1_passDay 1 := ⟨by decide, by decide, by decide +kernel⟩
theorem mv_X4_117 : MV RX4 117 yX1_passDay cX1_passDay 3 none 1 1 := ⟨(gt_in (w := Cond.methodLink RX4 117 yX1_passDay) 479 (by decide +kernel) (by decide +kernel)), (gt_in (w := Cond.instanceMethod yX1_passDay) 391 (by decide +kernel) (by decide +kernel)), (gt_in (w := Cond.selects yX1_passDay.cls yX1_passDay yX1_passDay) 392 (by decide +kernel) (by decide +kernel)), ini_RX1, cw_yX1_passDay, dk_yX1_passDay, by decide, TX1, 7, rfl⟩
theorem lk_X4_121 : Cond.fieldLink RX4 121 RX3 (TX3 0).2.1 (TX3 0).2.2.1 ∈ gt := (gt_in (w := Cond.fieldLink RX4 121 RX3 "counted" "[I") 108 (by decide +kernel) (by decide +kernel))
theorem fl_X4_121 : FL RX4 121 3 0 := ⟨RX3, TX3, 3, rfl, by decide, inX3g, lk_X4_121⟩
theorem fs_X4_121 : FS RX4 121 3 0 := ⟨RX3, TX3, 3, rfl, rfl⟩
set_option maxRecDepth 100000 in
theorem cw_yX4_think : Cond.code yX4_think cX4_think 1 none ∈ gt := (gt_in (w := Cond.code yX4_think cX4_think 1 none) 348 rfl (by decide +kernel))
theorem dk_yX4_think : dOK yX4_think 0 := ⟨by decide, by decide, by decide +kernel⟩
theorem mv_X4_124 : MV RX4 124 yX4_think cX4_think 1 none 0 4 := ⟨(gt_in (w := Cond.methodLink RX4 124 yX4_think) 345 (by decide +kernel) (by decide +kernel)), (gt_in (w := Cond.instanceMethod yX4_think) 347 (by decide +kernel) (by decide +kernel)), (gt_in (w := Cond.selects yX4_think.cls yX4_think yX4_think) 2 (by decide +kernel) (by decide +kernel)), ini_RX4, cw_yX4_think, dk_yX4_think, by decide, TX4, 12, rfl⟩
set_option maxRecDepth 100000 in
theorem cw_yX4_passInMind : Cond.code yX4_passInMind cX4_passInMind 3 (some .int) ∈ gt := (gt_in (w := Cond.code yX4_passInMind cX4_passInMind 3 (some .int)) 487 rfl (by decide +kernel))
theorem dk_yX4_passInMind : dOK yX4_passInMind 1 := ⟨by decide, by decide, by decide +kernel⟩
theorem mv_X4_127 : MV RX4 127 yX4_passInMind cX4_passInMind 3 (some .int) 1 4 := ⟨(gt_in (w := Cond.methodLink RX4 127 yX4_passInMind) 484 (by decide +kernel) (by decide +kernel)), (gt_in (w := Cond.instanceMethod yX4_passInMind) 486 (by decide +kernel) (by decide +kernel)), (gt_in (w := Cond.selects yX4_passInMind.cls yX4_passInMind yX4_passInMind) 11 (by decide +kernel) (by decide +kernel)), ini_RX4, cw_yX4_passInMind, dk_yX4_passInMind, by decide, TX4, 12, rfl⟩
set_option maxRecDepth 100000 in
theorem cw_yX1_allSlices : Cond.code yX1_allSlices cX1_allSlices 3 (some .int) ∈ gt := (gt_in (w := Cond.code yX1_allSlices cX1_allSlices 3 (some .int)) 503 rfl (by decide +kernel))
theorem dk_yX1_allSlices : dOK yX1_allSlices 0 := ⟨by decide, by decide, by decide +kernel⟩
theorem mv_X4_130 : MV RX4 130 yX1_allSlices cX1_allSlices 3 (some .int) 0 1 := ⟨(gt_in (w := Cond.methodLink RX4 130 yX1_allSlices) 500 (by decide +kernel) (by decide +kernel)), (gt_in (w := Cond.instanceMethod yX1_allSlices) 501 (by decide +kernel) (by decide +kernel)), (gt_in (w := Cond.selects yX1_allSlices.cls yX1_allSlices yX1_allSlices) 502 (by decide +kernel) (by decide +kernel)), ini_RX1, cw_yX1_allSlices, dk_yX1_allSlices, by decide, TX1, 7, rfl⟩
theorem ml_X4_133 : Cond.methodLink RX4 133 Lib.Math.min.name ∈ gt := (gt_in (w := Cond.methodLink RX4 133 Lib.Math.min.name) 504 (by decide +kernel) (by decide +kernel))
theorem st_Lib_Math_min : Cond.static Lib.Math.min.name ∈ gt := (gt_in (w := Cond.static Lib.Math.min.name) 300 (by decide +kernel) (by decide +kernel))
set_option maxRecDepth 100000 in
theorem co_Lib_Math_min : Cond.code Lib.Math.min.name Lib.Math.min.code 2 (some .int) ∈ gt := (gt_in (w := Cond.code Lib.Math.min.name Lib.Math.min.code 2 (some .int)) 301 rfl (by decide +kernel))
theorem ini_Math : Cond.initialized "java/lang/Math" ∈ gt := (gt_in (w := Cond.initialized "java/lang/Math") 49 (by decide +kernel) (by decide +kernel))
set_option maxRecDepth 100000 in
theorem cw_yX0_clear : Cond.code yX0_clear cX0_clear 1 none ∈ gt := (gt_in (w := Cond.code yX0_clear cX0_clear 1 none) 508 rfl (by decide +kernel))
theorem dk_yX0_clear : dOK yX0_clear 0 := ⟨by decide, by decide, by decide +kernel⟩
theorem ini_RX0 : Cond.initialized RX0 ∈ gt := (gt_in (w := Cond.initialized RX0) 42 (by decide +kernel) (by decide +kernel))
theorem mv_X4_138 : MV RX4 138 yX0_clear cX0_clear 1 none 0 0 := ⟨(gt_in (w := Cond.methodLink RX4 138 yX0_clear) 505 (by decide +kernel) (by decide +kernel)), (gt_in (w := Cond.instanceMethod yX0_clear) 506 (by decide +kernel) (by decide +kernel)), (gt_in (w := Cond.selects yX0_clear.cls yX0_clear yX0_clear) 507 (by decide +kernel) (by decide +kernel)), ini_RX0, cw_yX0_clear, dk_yX0_clear, by decide, TX0, 2, rfl⟩
set_option maxRecDepth 100000 in
theorem cw_yX1_loseOldest : Cond.code yX1_loseOldest cX1_loseOldest 5 none ∈ gt := (gt_in (w := Cond.code yX1_loseOldest cX1_loseOldest 5 none) 512 rfl (by decide +kernel))
theorem dk_yX1_loseOldest : dOK yX1_loseOldest 1 := ⟨by decide, by decide, by decide +kernel⟩
theorem mv_X4_139 : MV RX4 139 yX1_loseOldest cX1_loseOldest 5 none 1 1 := ⟨(gt_in (w := Cond.methodLink RX4 139 yX1_loseOldest) 509 (by decide +kernel) (by decide +kernel)), (gt_in (w := Cond.instanceMethod yX1_loseOldest) 510 (by decide +kernel) (by decide +kernel)), (gt_in (w := Cond.selects yX1_loseOldest.cls yX1_loseOldest yX1_loseOldest) 511 (by decide +kernel) (by decide +kernel)), ini_RX1, cw_yX1_loseOldest, dk_yX1_loseOldest, by decide, TX1, 7, rfl⟩
set_option maxRecDepth 100000 in
theorem cw_yX0_offer : Cond.code yX0_offer cX0_offer 3 none ∈ gt := (gt_in (w := Cond.code yX0_offer cX0_offer 3 none) 516 rfl (by decide +kernel))
theorem dk_yX0_offer : dOK yX0_offer 2 := ⟨by decide, by decide, by decide +kernel⟩
theorem mv_X4_143 : MV RX4 143 yX0_offer cX0_offer 3 none 2 0 := ⟨(gt_in (w := Cond.methodLink RX4 143 yX0_offer) 513 (by decide +kernel) (by decide +kernel)), (gt_in (w := Cond.instanceMethod yX0_offer) 514 (by decide +kernel) (by decide +kernel)), (gt_in (w := Cond.selects yX0_offer.cls yX0_offer yX0_offer) 515 (by decide +kernel) (by decide +kernel)), ini_RX0, cw_yX0_offer, dk_yX0_offer, by decide, TX0, 2, rfl⟩
theorem lk_X4_147 : Cond.fieldLink RX4 147 RX0 (TX0 0).2.1 (TX0 0).2.2.1 ∈ gt := (gt_in (w := Cond.fieldLink RX4 147 RX0 "best" "I") 127 (by decide +kernel) (by decide +kernel))
theorem fl_X4_147 : FL RX4 147 0 0 := ⟨RX0, TX0, 2, rfl, by decide, inX0g, lk_X4_147⟩
theorem fs_X4_147 : FS RX4 147 0 0 := ⟨RX0, TX0, 2, rfl, rfl⟩
set_option maxRecDepth 100000 in
theorem cw_yX1_openDays : Cond.code yX1_openDays cX1_openDays 3 (some .int) ∈ gt := (gt_in (w := Cond.code yX1_openDays cX1_openDays 3 (some .int)) 524 rfl (by decide +kernel))
theorem dk_yX1_openDays : dOK yX1_openDays 0 := ⟨by decide, by decide, by decide +kernel⟩
theorem mv_X4_150 : MV RX4 150 yX1_openDays cX1_openDays 3 (some .int) 0 1 := ⟨(gt_in (w := Cond.methodLink RX4 150 yX1_openDays) 521 (by decide +kernel) (by decide +kernel)), (gt_in (w := Cond.instanceMethod yX1_openDays) 522 (by decide +kernel) (by decide +kernel)), (gt_in (w := Cond.selects yX1_openDays.cls yX1_openDays yX1_openDays) 523 (by decide +kernel) (by decide +kernel)), ini_RX1, cw_yX1_openDays, dk_yX1_openDays, by decide, TX1, 7, rfl⟩
theorem lk_X4_153 : Cond.fieldLink RX4 153 RX1 (TX1 6).2.1 (TX1 6).2.2.1 ∈ gt := (gt_in (w := Cond.fieldLink RX4 153 RX1 "fewer" "I") 84 (by decide +kernel) (by decide +kernel))
theorem fl_X4_153 : FL RX4 153 1 6 := ⟨RX1, TX1, 7, rfl, by decide, inX1g, lk_X4_153⟩
theorem fs_X4_153 : FS RX4 153 1 6 := ⟨RX1, TX1, 7, rfl, rfl⟩
theorem fp_X4_153 : FP RX4 153 1 6 .int := ⟨RX1, TX1, 7, tyX1, rfl, by decide, inX1g, lk_X4_153, tyX1_ok, nmX1, rfl, by decide +kernel, rfl⟩
set_option maxRecDepth 100000 in
theorem cw_yX4_bestOfSetting : Cond.code yX4_bestOfSetting cX4_bestOfSetting 4 (some .int) ∈ gt := (gt_in (w := Cond.code yX4_bestOfSetting cX4_bestOfSetting 4 (some .int)) 532 rfl (by decide +kernel))
theorem dk_yX4_bestOfSetting : dOK yX4_bestOfSetting 2 := ⟨by decide, by decide, by decide +kernel⟩
theorem mv_X4_156 : MV RX4 156 yX4_bestOfSetting cX4_bestOfSetting 4 (some .int) 2 4 := ⟨(gt_in (w := Cond.methodLink RX4 156 yX4_bestOfSetting) 529 (by decide +kernel) (by decide +kernel)), (gt_in (w := Cond.instanceMethod yX4_bestOfSetting) 531 (by decide +kernel) (by decide +kernel)), (gt_in (w := Cond.selects yX4_bestOfSetting.cls yX4_bestOfSetting yX4_bestOfSetting) 12 (by decide +kernel) (by decide +kernel)), ini_RX4, cw_yX4_bestOfSetting, dk_yX4_bestOfSetting, by decide, TX4, 12, rfl⟩
theorem lk_X4_159 : Cond.fieldLink RX4 159 RX0 (TX0 1).2.1 (TX0 1).2.2.1 ∈ gt := (gt_in (w := Cond.fieldLink RX4 159 RX0 "bestValue" "I") 129 (by decide +kernel) (by decide +kernel))
theorem fl_X4_159 : FL RX4 159 0 1 := ⟨RX0, TX0, 2, rfl, by decide, inX0g, lk_X4_159⟩
theorem fs_X4_159 : FS RX4 159 0 1 := ⟨RX0, TX0, 2, rfl, rfl⟩
theorem cs_X4_162 : Cond.constantLong RX4 162 4000000000000000000 ∈ gt := (gt_in (w := Cond.constantLong RX4 162 4000000000000000000) 553 (by decide +kernel) (by decide +kernel))
theorem lk_X4_164 : Cond.fieldLink RX4 164 RX1 (TX1 4).2.1 (TX1 4).2.2.1 ∈ gt := (gt_in (w := Cond.fieldLink RX4 164 RX1 "eaterCount" "I") 79 (by decide +kernel) (by decide +kernel))
theorem fl_X4_164 : FL RX4 164 1 4 := ⟨RX1, TX1, 7, rfl, by decide, inX1g, lk_X4_164⟩
theorem fs_X4_164 : FS RX4 164 1 4 := ⟨RX1, TX1, 7, rfl, rfl⟩
theorem cs_X4_167 : Cond.constantLong RX4 167 10 ∈ gt := (gt_in (w := Cond.constantLong RX4 167 10) 554 (by decide +kernel) (by decide +kernel))
set_option maxRecDepth 100000 in
theorem cw_yX4_chanceOf : Cond.code yX4_chanceOf cX4_chanceOf 6 (some .long) ∈ gt := (gt_in (w := Cond.code yX4_chanceOf cX4_chanceOf 6 (some .long)) 558 rfl (by decide +kernel))
theorem dk_yX4_chanceOf : dOK yX4_chanceOf 1 := ⟨by decide, by decide, by decide +kernel⟩
theorem mv_X4_169 : MV RX4 169 yX4_chanceOf cX4_chanceOf 6 (some .long) 1 4 := ⟨(gt_in (w := Cond.methodLink RX4 169 yX4_chanceOf) 555 (by decide +kernel) (by decide +kernel)), (gt_in (w := Cond.instanceMethod yX4_chanceOf) 557 (by decide +kernel) (by decide +kernel)), (gt_in (w := Cond.selects yX4_chanceOf.cls yX4_chanceOf yX4_chanceOf) 13 (by decide +kernel) (by decide +kernel)), ini_RX4, cw_yX4_chanceOf, dk_yX4_chanceOf, by decide, TX4, 12, rfl⟩
set_option maxRecDepth 100000 in
theorem cw_yX4_valueIfThereCome : Cond.code yX4_valueIfThereCome cX4_valueIfThereCome 3 (some .int) ∈ gt := (gt_in (w := Cond.code yX4_valueIfThereCome cX4_valueIfThereCome 3 (some .int)) 562 rfl (by decide +kernel))
theorem dk_yX4_valueIfThereCome : dOK yX4_valueIfThereCome 1 := ⟨by decide, by decide, by decide +kernel⟩
theorem mv_X4_173 : MV RX4 173 yX4_valueIfThereCome cX4_valueIfThereCome 3 (some .int) 1 4 := ⟨(gt_in (w := Cond.methodLink RX4 173 yX4_valueIfThereCome) 559 (by decide +kernel) (by decide +kernel)), (gt_in (w := Cond.instanceMethod yX4_valueIfThereCome) 561 (by decide +kernel) (by decide +kernel)), (gt_in (w := Cond.selects yX4_valueIfThereCome.cls yX4_valueIfThereCome yX4_valueIfThereCome) 14 (by decide +kernel) (by decide +kernel)), ini_RX4, cw_yX4_valueIfThereCome, dk_yX4_valueIfThereCome, by decide, TX4, 12, rfl⟩
theorem ml_X4_176 : Cond.methodLink RX4 176 Lib.MathLoose.abs_long.x ∈ gt := (gt_in (w := Cond.methodLink RX4 176 Lib.MathLoose.abs_long.x) 563 (by decide +kernel) (by decide +kernel))
theorem st_Lib_MathLoose_abs_long : Cond.static Lib.MathLoose.abs_long.x ∈ gt := (gt_in (w := Cond.static Lib.MathLoose.abs_long.x) 564 (by decide +kernel) (by decide +kernel))
set_option maxRecDepth 100000 in
theorem co_Lib_MathLoose_abs_long : Cond.code Lib.MathLoose.abs_long.x Lib.MathLoose.abs_long.code 2 (some .long) ∈ gt := (gt_in (w := Cond.code Lib.MathLoose.abs_long.x Lib.MathLoose.abs_long.code 2 (some .long)) 565 rfl (by decide +kernel))
set_option maxRecDepth 100000 in
theorem cw_yX4_greatestDivisor : Cond.code yX4_greatestDivisor cX4_greatestDivisor 11 (some .long) ∈ gt := (gt_in (w := Cond.code yX4_greatestDivisor cX4_greatestDivisor 11 (some .long)) 568 rfl (by decide +kernel))
theorem dk_yX4_greatestDivisor : dOK yX4_greatestDivisor 2 := ⟨by decide, by decide, by decide +kernel⟩
theorem ms_X4_180 : MS RX4 180 yX4_greatestDivisor cX4_greatestDivisor 11 (some .long) 2 := ⟨(gt_in (w := Cond.methodLink RX4 180 yX4_greatestDivisor) 566 (by decide +kernel) (by decide +kernel)), (gt_in (w := Cond.static yX4_greatestDivisor) 567 (by decide +kernel) (by decide +kernel)), ini_RX4, cw_yX4_greatestDivisor, dk_yX4_greatestDivisor, by decide⟩
set_option maxRecDepth 100000 in
theorem cw_yJ7_fill_53178 : Cond.code yJ7_fill_53178 cJ7_fill_53178 4 none ∈ gt := (gt_in (w := Cond.code yJ7_fill_53178 cJ7_fill_53178 4 none) 478 rfl (by decide +kernel))
theorem dk_yJ7_fill_53178 : dOK yJ7_fill_53178 2 := ⟨by decide, by decide, by decide +kernel⟩
theorem ini_RJ7 : Cond.initialized RJ7 ∈ gt := (gt_in (w := Cond.initialized RJ7) 52 (by decide +kernel) (by decide +kernel))
theorem ms_X4_184 : MS RX4 184 yJ7_fill_53178 cJ7_fill_53178 4 none 2 := ⟨(gt_in (w := Cond.methodLink RX4 184 yJ7_fill_53178) 584 (by decide +kernel) (by decide +kernel)), (gt_in (w := Cond.static yJ7_fill_53178) 477 (by decide +kernel) (by decide +kernel)), ini_RJ7, cw_yJ7_fill_53178, dk_yJ7_fill_53178, by decide⟩
set_option maxRecDepth 100000 in
theorem cw_yX4_shareOne : Cond.code yX4_shareOne cX4_shareOne 7 none ∈ gt := (gt_in (w := Cond.code yX4_shareOne cX4_shareOne 7 none) 588 rfl (by decide +kernel))
theorem dk_yX4_shareOne : dOK yX4_shareOne 1 := ⟨by decide, by decide, by decide +kernel⟩
theorem mv_X4_190 : MV RX4 190 yX4_shareOne cX4_shareOne 7 none 1 4 := ⟨(gt_in (w := Cond.methodLink RX4 190 yX4_shareOne) 585 (by decide +kernel) (by decide +kernel)), (gt_in (w := Cond.instanceMethod yX4_shareOne) 587 (by decide +kernel) (by decide +kernel)), (gt_in (w := Cond.selects yX4_shareOne.cls yX4_shareOne yX4_shareOne) 15 (by decide +kernel) (by decide +kernel)), ini_RX4, cw_yX4_shareOne, dk_yX4_shareOne, by decide, TX4, 12, rfl⟩
set_option maxRecDepth 100000 in
theorem cw_yX4_greatest : Cond.code yX4_greatest cX4_greatest 3 (some .int) ∈ gt := (gt_in (w := Cond.code yX4_greatest cX4_greatest 3 (some .int)) 593 rfl (by decide +kernel))
theorem dk_yX4_greatest : dOK yX4_greatest 1 := ⟨by decide, by decide, by decide +kernel⟩
theorem ms_X4_193 : MS RX4 193 yX4_greatest cX4_greatest 3 (some .int) 1 := ⟨(gt_in (w := Cond.methodLink RX4 193 yX4_greatest) 591 (by decide +kernel) (by decide +kernel)), (gt_in (w := Cond.static yX4_greatest) 592 (by decide +kernel) (by decide +kernel)), ini_RX4, cw_yX4_greatest, dk_yX4_greatest, by decide⟩
theorem lk_X4_197 : Cond.fieldLink RX4 197 RX4 (TX4 10).2.1 (TX4 10).2.2.1 ∈ gt := (gt_in (w := Cond.fieldLink RX4 197 RX4 "numberCount" "I") 160 (by decide +kernel) (by decide +kernel))
theorem fl_X4_197 : FL RX4 197 4 10 := ⟨RX4, TX4, 12, rfl, by decide, inX4g, lk_X4_197⟩
theorem fs_X4_197 : FS RX4 197 4 10 := ⟨RX4, TX4, 12, rfl, rfl⟩
set_option maxRecDepth 100000 in
theorem cw_yX4_openBottle : Cond.code yX4_openBottle cX4_openBottle 8 none ∈ gt := (gt_in (w := Cond.code yX4_openBottle cX4_openBottle 8 none) 602 rfl (by decide +kernel))
theorem dk_yX4_openBottle : dOK yX4_openBottle 3 := ⟨by decide, by decide, by decide +kernel⟩
theorem mv_X4_200 : MV RX4 200 yX4_openBottle cX4_openBottle 8 none 3 4 := ⟨(gt_in (w := Cond.methodLink RX4 200 yX4_openBottle) 599 (by decide +kernel) (by decide +kernel)), (gt_in (w := Cond.instanceMethod yX4_openBottle) 601 (by decide +kernel) (by decide +kernel)), (gt_in (w := Cond.selects yX4_openBottle.cls yX4_openBottle yX4_openBottle) 16 (by decide +kernel) (by decide +kernel)), ini_RX4, cw_yX4_openBottle, dk_yX4_openBottle, by decide, TX4, 12, rfl⟩
theorem fp_X4_197 : FP RX4 197 4 10 .int := ⟨RX4, TX4, 12, tyX4, rfl, by decide, inX4g, lk_X4_197, tyX4_ok, nmX4, rfl, by decide +kernel, rfl⟩
set_option maxRecDepth 100000 in
theorem cw_yX4_throwsAsInRow : Cond.code yX4_throwsAsInRow cX4_throwsAsInRow 3 (some .boolean) ∈ gt := (gt_in (w := Cond.code yX4_throwsAsInRow cX4_throwsAsInRow 3 (some .boolean)) 614 rfl (by decide +kernel))
theorem dk_yX4_throwsAsInRow : dOK yX4_throwsAsInRow 1 := ⟨by decide, by decide, by decide +kernel⟩
theorem mv_X4_204 : MV RX4 204 yX4_throwsAsInRow cX4_throwsAsInRow 3 (some .boolean) 1 4 := ⟨(gt_in (w := Cond.methodLink RX4 204 yX4_throwsAsInRow) 611 (by decide +kernel) (by decide +kernel)), (gt_in (w := Cond.instanceMethod yX4_throwsAsInRow) 613 (by decide +kernel) (by decide +kernel)), (gt_in (w := Cond.selects yX4_throwsAsInRow.cls yX4_throwsAsInRow yX4_throwsAsInRow) 17 (by decide +kernel) (by decide +kernel)), ini_RX4, cw_yX4_throwsAsInRow, dk_yX4_throwsAsInRow, by decide, TX4, 12, rfl⟩
set_option maxRecDepth 100000 in
theorem cw_yX4_firstNotEatenToday : Cond.code yX4_firstNotEatenToday cX4_firstNotEatenToday 2 (some .int) ∈ gt := (gt_in (w := Cond.code yX4_firstNotEatenToday cX4_firstNotEatenToday 2 (some .int)) 622 rfl (by decide +kernel))
theorem dk_yX4_firstNotEatenToday : dOK yX4_firstNotEatenToday 0 := ⟨by decide, by decide, by decide +kernel⟩
theorem mv_X4_207 : MV RX4 207 yX4_firstNotEatenToday cX4_firstNotEatenToday 2 (some .int) 0 4 := ⟨(gt_in (w := Cond.methodLink RX4 207 yX4_firstNotEatenToday) 619 (by decide +kernel) (by decide +kernel)), (gt_in (w := Cond.instanceMethod yX4_firstNotEatenToday) 621 (by decide +kernel) (by decide +kernel)), (gt_in (w := Cond.selects yX4_firstNotEatenToday.cls yX4_firstNotEatenToday yX4_firstNotEatenToday) 18 (by decide +kernel) (by decide +kernel)), ini_RX4, cw_yX4_firstNotEatenToday, dk_yX4_firstNotEatenToday, by decide, TX4, 12, rfl⟩
theorem cs_X4_210 : Cond.constant RX4 210 1664525 ∈ gt := (gt_in (w := Cond.constant RX4 210 1664525) 627 (by decide +kernel) (by decide +kernel))
theorem cs_X4_211 : Cond.constant RX4 211 1013904223 ∈ gt := (gt_in (w := Cond.constant RX4 211 1013904223) 628 (by decide +kernel) (by decide +kernel))
set_option maxRecDepth 100000 in
theorem cw_yX4_draw : Cond.code yX4_draw cX4_draw 2 (some .int) ∈ gt := (gt_in (w := Cond.code yX4_draw cX4_draw 2 (some .int)) 631 rfl (by decide +kernel))
theorem dk_yX4_draw : dOK yX4_draw 2 := ⟨by decide, by decide, by decide +kernel⟩
theorem ms_X4_212 : MS RX4 212 yX4_draw cX4_draw 2 (some .int) 2 := ⟨(gt_in (w := Cond.methodLink RX4 212 yX4_draw) 629 (by decide +kernel) (by decide +kernel)), (gt_in (w := Cond.static yX4_draw) 630 (by decide +kernel) (by decide +kernel)), ini_RX4, cw_yX4_draw, dk_yX4_draw, by decide⟩
set_option maxRecDepth 100000 in
theorem cw_yX1_become : Cond.code yX1_become cX1_become 3 none ∈ gt := (gt_in (w := Cond.code yX1_become cX1_become 3 none) 352 rfl (by decide +kernel))
theorem dk_yX1_become : dOK yX1_become 1 := ⟨by decide, by decide, by decide +kernel⟩
theorem mv_X4_215 : MV RX4 215 yX1_become cX1_become 3 none 1 1 := ⟨(gt_in (w := Cond.methodLink RX4 215 yX1_become) 349 (by decide +kernel) (by decide +kernel)), (gt_in (w := Cond.instanceMethod yX1_become) 350 (by decide +kernel) (by decide +kernel)), (gt_in (w := Cond.selects yX1_become.cls yX1_become yX1_become) 351 (by decide +kernel) (by decide +kernel)), ini_RX1, cw_yX1_become, dk_yX1_become, by decide, TX1, 7, rfl⟩
theorem lk_X4_219 : Cond.fieldLink RX4 219 RX4 (TX4 11).2.1 (TX4 11).2.2.1 ∈ gt := (gt_in (w := Cond.fieldLink RX4 219 RX4 "imageTaken" "Z") 161 (by decide +kernel) (by decide +kernel))
theorem fl_X4_219 : FL RX4 219 4 11 := ⟨RX4, TX4, 12, rfl, by decide, inX4g, lk_X4_219⟩
theorem fs_X4_219 : FS RX4 219 4 11 := ⟨RX4, TX4, 12, rfl, rfl⟩
theorem fp_X4_219 : FP RX4 219 4 11 .boolean := ⟨RX4, TX4, 12, tyX4, rfl, by decide, inX4g, lk_X4_219, tyX4_ok, nmX4, rfl, by decide +kernel, rfl⟩
set_option maxRecDepth 100000 in
theorem cw_yX1_allHunger : Cond.code yX1_allHunger cX1_allHunger 3 (some .int) ∈ gt := (gt_in (w := Cond.code yX1_allHunger cX1_allHunger 3 (some .int)) 648 rfl (by decide +kernel))
theorem dk_yX1_allHunger : dOK yX1_allHunger 0 := ⟨by decide, by decide, by decide +kernel⟩
theorem mv_X4_223 : MV RX4 223 yX1_allHunger cX1_allHunger 3 (some .int) 0 1 := ⟨(gt_in (w := Cond.methodLink RX4 223 yX1_allHunger) 645 (by decide +kernel) (by decide +kernel)), (gt_in (w := Cond.instanceMethod yX1_allHunger) 646 (by decide +kernel) (by decide +kernel)), (gt_in (w := Cond.selects yX1_allHunger.cls yX1_allHunger yX1_allHunger) 647 (by decide +kernel) (by decide +kernel)), ini_RX1, cw_yX1_allHunger, dk_yX1_allHunger, by decide, TX1, 7, rfl⟩
set_option maxRecDepth 100000 in
theorem cw_yX2_tellStatement : Cond.code yX2_tellStatement cX2_tellStatement 6 (some .boolean) ∈ gt := (gt_in (w := Cond.code yX2_tellStatement cX2_tellStatement 6 (some .boolean)) 359 rfl (by decide +kernel))
theorem dk_yX2_tellStatement : dOK yX2_tellStatement 3 := ⟨by decide, by decide, by decide +kernel⟩
theorem mv_X4_226 : MV RX4 226 yX2_tellStatement cX2_tellStatement 6 (some .boolean) 3 2 := ⟨(gt_in (w := Cond.methodLink RX4 226 yX2_tellStatement) 356 (by decide +kernel) (by decide +kernel)), (gt_in (w := Cond.instanceMethod yX2_tellStatement) 357 (by decide +kernel) (by decide +kernel)), (gt_in (w := Cond.selects yX2_tellStatement.cls yX2_tellStatement yX2_tellStatement) 358 (by decide +kernel) (by decide +kernel)), ini_RX2, cw_yX2_tellStatement, dk_yX2_tellStatement, by decide, TX2, 2, rfl⟩
set_option maxRecDepth 100000 in
theorem cw_yX2_behindStatement : Cond.code yX2_behindStatement cX2_behindStatement 3 (some .int) ∈ gt := (gt_in (w := Cond.code yX2_behindStatement cX2_behindStatement 3 (some .int)) 438 rfl (by decide +kernel))
theorem dk_yX2_behindStatement : dOK yX2_behindStatement 1 := ⟨by decide, by decide, by decide +kernel⟩
theorem mv_X4_230 : MV RX4 230 yX2_behindStatement cX2_behindStatement 3 (some .int) 1 2 := ⟨(gt_in (w := Cond.methodLink RX4 230 yX2_behindStatement) 435 (by decide +kernel) (by decide +kernel)), (gt_in (w := Cond.instanceMethod yX2_behindStatement) 436 (by decide +kernel) (by decide +kernel)), (gt_in (w := Cond.selects yX2_behindStatement.cls yX2_behindStatement yX2_behindStatement) 437 (by decide +kernel) (by decide +kernel)), ini_RX2, cw_yX2_behindStatement, dk_yX2_behindStatement, by decide, TX2, 2, rfl⟩
theorem ml_X4_233 : Cond.methodLink RX4 233 Lib.MathLoose.max_long.x ∈ gt := (gt_in (w := Cond.methodLink RX4 233 Lib.MathLoose.max_long.x) 569 (by decide +kernel) (by decide +kernel))
theorem st_Lib_MathLoose_max_long : Cond.static Lib.MathLoose.max_long.x ∈ gt := (gt_in (w := Cond.static Lib.MathLoose.max_long.x) 570 (by decide +kernel) (by decide +kernel))
set_option maxRecDepth 100000 in
theorem co_Lib_MathLoose_max_long : Cond.code Lib.MathLoose.max_long.x Lib.MathLoose.max_long.code 4 (some .long) ∈ gt := (gt_in (w := Cond.code Lib.MathLoose.max_long.x Lib.MathLoose.max_long.code 4 (some .long)) 571 rfl (by decide +kernel))
theorem gs_X4_236 : Cond.fieldLink RX4 236 RX4 "THREES" "[I" ∈ gt := (gt_in (w := Cond.fieldLink RX4 236 RX4 "THREES" "[I" ) 589 (by decide +kernel) (by decide +kernel))
theorem ml_X4_239 : Cond.methodLink RX4 239 Lib.Math.max.name ∈ gt := (gt_in (w := Cond.methodLink RX4 239 Lib.Math.max.name) 594 (by decide +kernel) (by decide +kernel))
theorem st_Lib_Math_max : Cond.static Lib.Math.max.name ∈ gt := (gt_in (w := Cond.static Lib.Math.max.name) 297 (by decide +kernel) (by decide +kernel))
set_option maxRecDepth 100000 in
theorem co_Lib_Math_max : Cond.code Lib.Math.max.name Lib.Math.max.code 2 (some .int) ∈ gt := (gt_in (w := Cond.code Lib.Math.max.name Lib.Math.max.code 2 (some .int)) 298 rfl (by decide +kernel))
theorem lk_X4_241 : Cond.fieldLink RX4 241 RX3 (TX3 2).2.1 (TX3 2).2.2.1 ∈ gt := (gt_in (w := Cond.fieldLink RX4 241 RX3 "firstCount" "I") 112 (by decide +kernel) (by decide +kernel))
theorem fl_X4_241 : FL RX4 241 3 2 := ⟨RX3, TX3, 3, rfl, by decide, inX3g, lk_X4_241⟩
theorem fs_X4_241 : FS RX4 241 3 2 := ⟨RX3, TX3, 3, rfl, rfl⟩
theorem lk_X4_244 : Cond.fieldLink RX4 244 RX3 (TX3 1).2.1 (TX3 1).2.2.1 ∈ gt := (gt_in (w := Cond.fieldLink RX4 244 RX3 "firstAges" "[I") 110 (by decide +kernel) (by decide +kernel))
theorem fl_X4_244 : FL RX4 244 3 1 := ⟨RX3, TX3, 3, rfl, by decide, inX3g, lk_X4_244⟩
theorem fs_X4_244 : FS RX4 244 3 1 := ⟨RX3, TX3, 3, rfl, rfl⟩
theorem cs_X4_247 : Cond.constant RX4 247 2147483647 ∈ gt := (gt_in (w := Cond.constant RX4 247 2147483647) 632 (by decide +kernel) (by decide +kernel))
theorem lk_X5_1 : Cond.fieldLink RX5 1 RX5 (TX5 0).2.1 (TX5 0).2.2.1 ∈ gt := (gt_in (w := Cond.fieldLink RX5 1 RX5 "refused" "[I") 655 (by decide +kernel) (by decide +kernel))
theorem fl_X5_1 : FL RX5 1 5 0 := ⟨RX5, TX5, 28, rfl, by decide, inX5g, lk_X5_1⟩
theorem fs_X5_1 : FS RX5 1 5 0 := ⟨RX5, TX5, 28, rfl, rfl⟩
theorem lk_X5_13 : Cond.fieldLink RX5 13 RX5 (TX5 1).2.1 (TX5 1).2.2.1 ∈ gt := (gt_in (w := Cond.fieldLink RX5 13 RX5 "now" "[I") 656 (by decide +kernel) (by decide +kernel))
theorem fl_X5_13 : FL RX5 13 5 1 := ⟨RX5, TX5, 28, rfl, by decide, inX5g, lk_X5_13⟩
theorem fs_X5_13 : FS RX5 13 5 1 := ⟨RX5, TX5, 28, rfl, rfl⟩
theorem lk_X5_16 : Cond.fieldLink RX5 16 RX5 (TX5 2).2.1 (TX5 2).2.2.1 ∈ gt := (gt_in (w := Cond.fieldLink RX5 16 RX5 "mind" "[I") 657 (by decide +kernel) (by decide +kernel))
theorem fl_X5_16 : FL RX5 16 5 2 := ⟨RX5, TX5, 28, rfl, by decide, inX5g, lk_X5_16⟩
theorem fs_X5_16 : FS RX5 16 5 2 := ⟨RX5, TX5, 28, rfl, rfl⟩
theorem lk_X5_19 : Cond.fieldLink RX5 19 RX5 (TX5 3).2.1 (TX5 3).2.2.1 ∈ gt := (gt_in (w := Cond.fieldLink RX5 19 RX5 "then" "[I") 658 (by decide +kernel) (by decide +kernel))
theorem fl_X5_19 : FL RX5 19 5 3 := ⟨RX5, TX5, 28, rfl, by decide, inX5g, lk_X5_19⟩
theorem fs_X5_19 : FS RX5 19 5 3 := ⟨RX5, TX5, 28, rfl, rfl⟩
theorem lk_X5_22 : Cond.fieldLink RX5 22 RX5 (TX5 5).2.1 (TX5 5).2.2.1 ∈ gt := (gt_in (w := Cond.fieldLink RX5 22 RX5 "hungers" "[I") 660 (by decide +kernel) (by decide +kernel))
theorem fl_X5_22 : FL RX5 22 5 5 := ⟨RX5, TX5, 28, rfl, by decide, inX5g, lk_X5_22⟩
theorem fs_X5_22 : FS RX5 22 5 5 := ⟨RX5, TX5, 28, rfl, rfl⟩
theorem lk_X5_25 : Cond.fieldLink RX5 25 RX5 (TX5 6).2.1 (TX5 6).2.2.1 ∈ gt := (gt_in (w := Cond.fieldLink RX5 25 RX5 "eaten" "[I") 661 (by decide +kernel) (by decide +kernel))
theorem fl_X5_25 : FL RX5 25 5 6 := ⟨RX5, TX5, 28, rfl, by decide, inX5g, lk_X5_25⟩
theorem fs_X5_25 : FS RX5 25 5 6 := ⟨RX5, TX5, 28, rfl, rfl⟩
theorem lk_X5_28 : Cond.fieldLink RX5 28 RX5 (TX5 13).2.1 (TX5 13).2.2.1 ∈ gt := (gt_in (w := Cond.fieldLink RX5 28 RX5 "sums" "[I") 668 (by decide +kernel) (by decide +kernel))
theorem fl_X5_28 : FL RX5 28 5 13 := ⟨RX5, TX5, 28, rfl, by decide, inX5g, lk_X5_28⟩
theorem fs_X5_28 : FS RX5 28 5 13 := ⟨RX5, TX5, 28, rfl, rfl⟩
theorem lk_X5_31 : Cond.fieldLink RX5 31 RX5 (TX5 14).2.1 (TX5 14).2.2.1 ∈ gt := (gt_in (w := Cond.fieldLink RX5 31 RX5 "tape" "[I") 669 (by decide +kernel) (by decide +kernel))
theorem fl_X5_31 : FL RX5 31 5 14 := ⟨RX5, TX5, 28, rfl, by decide, inX5g, lk_X5_31⟩
theorem fs_X5_31 : FS RX5 31 5 14 := ⟨RX5, TX5, 28, rfl, rfl⟩
theorem lk_X5_34 : Cond.fieldLink RX5 34 RX5 (TX5 18).2.1 (TX5 18).2.2.1 ∈ gt := (gt_in (w := Cond.fieldLink RX5 34 RX5 "begins" "[C") 673 (by decide +kernel) (by decide +kernel))
theorem fl_X5_34 : FL RX5 34 5 18 := ⟨RX5, TX5, 28, rfl, by decide, inX5g, lk_X5_34⟩
theorem fs_X5_34 : FS RX5 34 5 18 := ⟨RX5, TX5, 28, rfl, rfl⟩
theorem lk_X5_38 : Cond.fieldLink RX5 38 RX5 (TX5 19).2.1 (TX5 19).2.2.1 ∈ gt := (gt_in (w := Cond.fieldLink RX5 38 RX5 "eaters" "[C") 674 (by decide +kernel) (by decide +kernel))
theorem fl_X5_38 : FL RX5 38 5 19 := ⟨RX5, TX5, 28, rfl, by decide, inX5g, lk_X5_38⟩
theorem fs_X5_38 : FS RX5 38 5 19 := ⟨RX5, TX5, 28, rfl, rfl⟩
theorem lk_X5_41 : Cond.fieldLink RX5 41 RX5 (TX5 20).2.1 (TX5 20).2.2.1 ∈ gt := (gt_in (w := Cond.fieldLink RX5 41 RX5 "houses" "[C") 675 (by decide +kernel) (by decide +kernel))
theorem fl_X5_41 : FL RX5 41 5 20 := ⟨RX5, TX5, 28, rfl, by decide, inX5g, lk_X5_41⟩
theorem fs_X5_41 : FS RX5 41 5 20 := ⟨RX5, TX5, 28, rfl, rfl⟩
theorem lk_X5_44 : Cond.fieldLink RX5 44 RX5 (TX5 21).2.1 (TX5 21).2.2.1 ∈ gt := (gt_in (w := Cond.fieldLink RX5 44 RX5 "opens" "[C") 676 (by decide +kernel) (by decide +kernel))
theorem fl_X5_44 : FL RX5 44 5 21 := ⟨RX5, TX5, 28, rfl, by decide, inX5g, lk_X5_44⟩
theorem fs_X5_44 : FS RX5 44 5 21 := ⟨RX5, TX5, 28, rfl, rfl⟩
theorem lk_X5_47 : Cond.fieldLink RX5 47 RX5 (TX5 23).2.1 (TX5 23).2.2.1 ∈ gt := (gt_in (w := Cond.fieldLink RX5 47 RX5 "field" "[I") 678 (by decide +kernel) (by decide +kernel))
theorem fl_X5_47 : FL RX5 47 5 23 := ⟨RX5, TX5, 28, rfl, by decide, inX5g, lk_X5_47⟩
theorem fs_X5_47 : FS RX5 47 5 23 := ⟨RX5, TX5, 28, rfl, rfl⟩
theorem lk_X5_50 : Cond.fieldLink RX5 50 RX5 (TX5 25).2.1 (TX5 25).2.2.1 ∈ gt := (gt_in (w := Cond.fieldLink RX5 50 RX5 "had" "[I") 680 (by decide +kernel) (by decide +kernel))
theorem fl_X5_50 : FL RX5 50 5 25 := ⟨RX5, TX5, 28, rfl, by decide, inX5g, lk_X5_50⟩
theorem fs_X5_50 : FS RX5 50 5 25 := ⟨RX5, TX5, 28, rfl, rfl⟩
theorem lk_X5_53 : Cond.fieldLink RX5 53 RX5 (TX5 26).2.1 (TX5 26).2.2.1 ∈ gt := (gt_in (w := Cond.fieldLink RX5 53 RX5 "line" "[I") 681 (by decide +kernel) (by decide +kernel))
theorem fl_X5_53 : FL RX5 53 5 26 := ⟨RX5, TX5, 28, rfl, by decide, inX5g, lk_X5_53⟩
theorem fs_X5_53 : FS RX5 53 5 26 := ⟨RX5, TX5, 28, rfl, rfl⟩
theorem lk_X5_56 : Cond.fieldLink RX5 56 RX5 (TX5 4).2.1 (TX5 4).2.2.1 ∈ gt := (gt_in (w := Cond.fieldLink RX5 56 RX5 "kept" "Z") 659 (by decide +kernel) (by decide +kernel))
theorem fl_X5_56 : FL RX5 56 5 4 := ⟨RX5, TX5, 28, rfl, by decide, inX5g, lk_X5_56⟩
theorem fs_X5_56 : FS RX5 56 5 4 := ⟨RX5, TX5, 28, rfl, rfl⟩
theorem fp_X5_56 : FP RX5 56 5 4 .boolean := ⟨RX5, TX5, 28, tyX5, rfl, by decide, inX5g, lk_X5_56, tyX5_ok, nmX5, rfl, by decide +kernel, rfl⟩
set_option maxRecDepth 100000 in
theorem cw_yX5_move : Cond.code yX5_move cX5_move 3 none ∈ gt := (gt_in (w := Cond.code yX5_move cX5_move 3 none) 746 rfl (by decide +kernel))
theorem dk_yX5_move : dOK yX5_move 2 := ⟨by decide, by decide, by decide +kernel⟩
theorem ini_RX5 : Cond.initialized RX5 ∈ gt := (gt_in (w := Cond.initialized RX5) 44 (by decide +kernel) (by decide +kernel))
theorem ms_X5_60 : MS RX5 60 yX5_move cX5_move 3 none 2 := ⟨(gt_in (w := Cond.methodLink RX5 60 yX5_move) 744 (by decide +kernel) (by decide +kernel)), (gt_in (w := Cond.static yX5_move) 745 (by decide +kernel) (by decide +kernel)), ini_RX5, cw_yX5_move, dk_yX5_move, by decide⟩
set_option maxRecDepth 100000 in
theorem cw_yX5_no : Cond.code yX5_no cX5_no 2 (some .int) ∈ gt := (gt_in (w := Cond.code yX5_no cX5_no 2 (some .int)) 754 rfl (by decide +kernel))
theorem dk_yX5_no : dOK yX5_no 1 := ⟨by decide, by decide, by decide +kernel⟩
theorem mv_X5_64 : MV RX5 64 yX5_no cX5_no 2 (some .int) 1 5 := ⟨(gt_in (w := Cond.methodLink RX5 64 yX5_no) 751 (by decide +kernel) (by decide +kernel)), (gt_in (w := Cond.instanceMethod yX5_no) 753 (by decide +kernel) (by decide +kernel)), (gt_in (w := Cond.selects yX5_no.cls yX5_no yX5_no) 19 (by decide +kernel) (by decide +kernel)), ini_RX5, cw_yX5_no, dk_yX5_no, by decide, TX5, 28, rfl⟩
theorem ml_X5_68 : Cond.methodLink RX5 68 Lib.Math.max.name ∈ gt := (gt_in (w := Cond.methodLink RX5 68 Lib.Math.max.name) 800 (by decide +kernel) (by decide +kernel))
set_option maxRecDepth 100000 in
theorem cw_yX5_worthOf : Cond.code yX5_worthOf cX5_worthOf 6 (some .int) ∈ gt := (gt_in (w := Cond.code yX5_worthOf cX5_worthOf 6 (some .int)) 806 rfl (by decide +kernel))
theorem dk_yX5_worthOf : dOK yX5_worthOf 3 := ⟨by decide, by decide, by decide +kernel⟩
theorem ms_X5_74 : MS RX5 74 yX5_worthOf cX5_worthOf 6 (some .int) 3 := ⟨(gt_in (w := Cond.methodLink RX5 74 yX5_worthOf) 804 (by decide +kernel) (by decide +kernel)), (gt_in (w := Cond.static yX5_worthOf) 805 (by decide +kernel) (by decide +kernel)), ini_RX5, cw_yX5_worthOf, dk_yX5_worthOf, by decide⟩
theorem ml_X5_78 : Cond.methodLink RX5 78 Lib.Math.min.name ∈ gt := (gt_in (w := Cond.methodLink RX5 78 Lib.Math.min.name) 799 (by decide +kernel) (by decide +kernel))
theorem lk_X5_81 : Cond.fieldLink RX5 81 RX5 (TX5 12).2.1 (TX5 12).2.2.1 ∈ gt := (gt_in (w := Cond.fieldLink RX5 81 RX5 "bought" "I") 667 (by decide +kernel) (by decide +kernel))
theorem fl_X5_81 : FL RX5 81 5 12 := ⟨RX5, TX5, 28, rfl, by decide, inX5g, lk_X5_81⟩
theorem fs_X5_81 : FS RX5 81 5 12 := ⟨RX5, TX5, 28, rfl, rfl⟩
theorem fp_X5_81 : FP RX5 81 5 12 .int := ⟨RX5, TX5, 28, tyX5, rfl, by decide, inX5g, lk_X5_81, tyX5_ok, nmX5, rfl, by decide +kernel, rfl⟩
theorem lk_X5_85 : Cond.fieldLink RX5 85 RX5 (TX5 8).2.1 (TX5 8).2.2.1 ∈ gt := (gt_in (w := Cond.fieldLink RX5 85 RX5 "value" "I") 663 (by decide +kernel) (by decide +kernel))
theorem fl_X5_85 : FL RX5 85 5 8 := ⟨RX5, TX5, 28, rfl, by decide, inX5g, lk_X5_85⟩
theorem fs_X5_85 : FS RX5 85 5 8 := ⟨RX5, TX5, 28, rfl, rfl⟩
theorem fp_X5_85 : FP RX5 85 5 8 .int := ⟨RX5, TX5, 28, tyX5, rfl, by decide, inX5g, lk_X5_85, tyX5_ok, nmX5, rfl, by decide +kernel, rfl⟩
theorem lk_X5_88 : Cond.fieldLink RX5 88 RX5 (TX5 9).2.1 (TX5 9).2.2.1 ∈ gt := (gt_in (w := Cond.fieldLink RX5 88 RX5 "fresh" "I") 664 (by decide +kernel) (by decide +kernel))
theorem fl_X5_88 : FL RX5 88 5 9 := ⟨RX5, TX5, 28, rfl, by decide, inX5g, lk_X5_88⟩
theorem fs_X5_88 : FS RX5 88 5 9 := ⟨RX5, TX5, 28, rfl, rfl⟩
theorem fp_X5_88 : FP RX5 88 5 9 .int := ⟨RX5, TX5, 28, tyX5, rfl, by decide, inX5g, lk_X5_88, tyX5_ok, nmX5, rfl, by decide +kernel, rfl⟩
theorem lk_X5_91 : Cond.fieldLink RX5 91 RX5 (TX5 11).2.1 (TX5 11).2.2.1 ∈ gt := (gt_in (w := Cond.fieldLink RX5 91 RX5 "lacked" "I") 666 (by decide +kernel) (by decide +kernel))
theorem fl_X5_91 : FL RX5 91 5 11 := ⟨RX5, TX5, 28, rfl, by decide, inX5g, lk_X5_91⟩
theorem fs_X5_91 : FS RX5 91 5 11 := ⟨RX5, TX5, 28, rfl, rfl⟩
theorem fp_X5_91 : FP RX5 91 5 11 .int := ⟨RX5, TX5, 28, tyX5, rfl, by decide, inX5g, lk_X5_91, tyX5_ok, nmX5, rfl, by decide +kernel, rfl⟩
theorem lk_X5_94 : Cond.fieldLink RX5 94 RX5 (TX5 7).2.1 (TX5 7).2.2.1 ∈ gt := (gt_in (w := Cond.fieldLink RX5 94 RX5 "eatenMany" "I") 662 (by decide +kernel) (by decide +kernel))
theorem fl_X5_94 : FL RX5 94 5 7 := ⟨RX5, TX5, 28, rfl, by decide, inX5g, lk_X5_94⟩
theorem fs_X5_94 : FS RX5 94 5 7 := ⟨RX5, TX5, 28, rfl, rfl⟩
theorem fp_X5_94 : FP RX5 94 5 7 .int := ⟨RX5, TX5, 28, tyX5, rfl, by decide, inX5g, lk_X5_94, tyX5_ok, nmX5, rfl, by decide +kernel, rfl⟩
set_option maxRecDepth 100000 in
theorem cw_yX5_come : Cond.code yX5_come cX5_come 5 (some .int) ∈ gt := (gt_in (w := Cond.code yX5_come cX5_come 5 (some .int)) 798 rfl (by decide +kernel))
theorem dk_yX5_come : dOK yX5_come 3 := ⟨by decide, by decide, by decide +kernel⟩
theorem mv_X5_97 : MV RX5 97 yX5_come cX5_come 5 (some .int) 3 5 := ⟨(gt_in (w := Cond.methodLink RX5 97 yX5_come) 795 (by decide +kernel) (by decide +kernel)), (gt_in (w := Cond.instanceMethod yX5_come) 797 (by decide +kernel) (by decide +kernel)), (gt_in (w := Cond.selects yX5_come.cls yX5_come yX5_come) 28 (by decide +kernel) (by decide +kernel)), ini_RX5, cw_yX5_come, dk_yX5_come, by decide, TX5, 28, rfl⟩
set_option maxRecDepth 100000 in
theorem cw_yX5_next : Cond.code yX5_next cX5_next 7 (some .int) ∈ gt := (gt_in (w := Cond.code yX5_next cX5_next 7 (some .int)) 803 rfl (by decide +kernel))
theorem dk_yX5_next : dOK yX5_next 2 := ⟨by decide, by decide, by decide +kernel⟩
theorem ms_X5_100 : MS RX5 100 yX5_next cX5_next 7 (some .int) 2 := ⟨(gt_in (w := Cond.methodLink RX5 100 yX5_next) 801 (by decide +kernel) (by decide +kernel)), (gt_in (w := Cond.static yX5_next) 802 (by decide +kernel) (by decide +kernel)), ini_RX5, cw_yX5_next, dk_yX5_next, by decide⟩
theorem lk_X5_104 : Cond.fieldLink RX5 104 RX5 (TX5 10).2.1 (TX5 10).2.2.1 ∈ gt := (gt_in (w := Cond.fieldLink RX5 104 RX5 "thrown" "I") 665 (by decide +kernel) (by decide +kernel))
theorem fl_X5_104 : FL RX5 104 5 10 := ⟨RX5, TX5, 28, rfl, by decide, inX5g, lk_X5_104⟩
theorem fs_X5_104 : FS RX5 104 5 10 := ⟨RX5, TX5, 28, rfl, rfl⟩
theorem fp_X5_104 : FP RX5 104 5 10 .int := ⟨RX5, TX5, 28, tyX5, rfl, by decide, inX5g, lk_X5_104, tyX5_ok, nmX5, rfl, by decide +kernel, rfl⟩
set_option maxRecDepth 100000 in
theorem cw_yX5_asTold : Cond.code yX5_asTold cX5_asTold 3 none ∈ gt := (gt_in (w := Cond.code yX5_asTold cX5_asTold 3 none) 790 rfl (by decide +kernel))
theorem dk_yX5_asTold : dOK yX5_asTold 1 := ⟨by decide, by decide, by decide +kernel⟩
theorem mv_X5_107 : MV RX5 107 yX5_asTold cX5_asTold 3 none 1 5 := ⟨(gt_in (w := Cond.methodLink RX5 107 yX5_asTold) 787 (by decide +kernel) (by decide +kernel)), (gt_in (w := Cond.instanceMethod yX5_asTold) 789 (by decide +kernel) (by decide +kernel)), (gt_in (w := Cond.selects yX5_asTold.cls yX5_asTold yX5_asTold) 26 (by decide +kernel) (by decide +kernel)), ini_RX5, cw_yX5_asTold, dk_yX5_asTold, by decide, TX5, 28, rfl⟩
set_option maxRecDepth 100000 in
theorem cw_yX5_day : Cond.code yX5_day cX5_day 7 none ∈ gt := (gt_in (w := Cond.code yX5_day cX5_day 7 none) 794 rfl (by decide +kernel))
theorem dk_yX5_day : dOK yX5_day 2 := ⟨by decide, by decide, by decide +kernel⟩
theorem mv_X5_111 : MV RX5 111 yX5_day cX5_day 7 none 2 5 := ⟨(gt_in (w := Cond.methodLink RX5 111 yX5_day) 791 (by decide +kernel) (by decide +kernel)), (gt_in (w := Cond.instanceMethod yX5_day) 793 (by decide +kernel) (by decide +kernel)), (gt_in (w := Cond.selects yX5_day.cls yX5_day yX5_day) 27 (by decide +kernel) (by decide +kernel)), ini_RX5, cw_yX5_day, dk_yX5_day, by decide, TX5, 28, rfl⟩
set_option maxRecDepth 100000 in
theorem cw_yX5_goOn : Cond.code yX5_goOn cX5_goOn 6 none ∈ gt := (gt_in (w := Cond.code yX5_goOn cX5_goOn 6 none) 854 rfl (by decide +kernel))
theorem dk_yX5_goOn : dOK yX5_goOn 2 := ⟨by decide, by decide, by decide +kernel⟩
theorem mv_X5_115 : MV RX5 115 yX5_goOn cX5_goOn 6 none 2 5 := ⟨(gt_in (w := Cond.methodLink RX5 115 yX5_goOn) 851 (by decide +kernel) (by decide +kernel)), (gt_in (w := Cond.instanceMethod yX5_goOn) 853 (by decide +kernel) (by decide +kernel)), (gt_in (w := Cond.selects yX5_goOn.cls yX5_goOn yX5_goOn) 32 (by decide +kernel) (by decide +kernel)), ini_RX5, cw_yX5_goOn, dk_yX5_goOn, by decide, TX5, 28, rfl⟩
theorem lk_X5_119 : Cond.fieldLink RX5 119 RX5 (TX5 15).2.1 (TX5 15).2.2.1 ∈ gt := (gt_in (w := Cond.fieldLink RX5 119 RX5 "taped" "I") 670 (by decide +kernel) (by decide +kernel))
theorem fl_X5_119 : FL RX5 119 5 15 := ⟨RX5, TX5, 28, rfl, by decide, inX5g, lk_X5_119⟩
theorem fs_X5_119 : FS RX5 119 5 15 := ⟨RX5, TX5, 28, rfl, rfl⟩
theorem fp_X5_119 : FP RX5 119 5 15 .int := ⟨RX5, TX5, 28, tyX5, rfl, by decide, inX5g, lk_X5_119, tyX5_ok, nmX5, rfl, by decide +kernel, rfl⟩
theorem lk_X5_122 : Cond.fieldLink RX5 122 RX5 (TX5 17).2.1 (TX5 17).2.2.1 ∈ gt := (gt_in (w := Cond.fieldLink RX5 122 RX5 "well" "Z") 672 (by decide +kernel) (by decide +kernel))
theorem fl_X5_122 : FL RX5 122 5 17 := ⟨RX5, TX5, 28, rfl, by decide, inX5g, lk_X5_122⟩
theorem fs_X5_122 : FS RX5 122 5 17 := ⟨RX5, TX5, 28, rfl, rfl⟩
theorem lk_X5_125 : Cond.fieldLink RX5 125 RX5 (TX5 16).2.1 (TX5 16).2.2.1 ∈ gt := (gt_in (w := Cond.fieldLink RX5 125 RX5 "at" "I") 671 (by decide +kernel) (by decide +kernel))
theorem fl_X5_125 : FL RX5 125 5 16 := ⟨RX5, TX5, 28, rfl, by decide, inX5g, lk_X5_125⟩
theorem fs_X5_125 : FS RX5 125 5 16 := ⟨RX5, TX5, 28, rfl, rfl⟩
theorem fp_X5_125 : FP RX5 125 5 16 .int := ⟨RX5, TX5, 28, tyX5, rfl, by decide, inX5g, lk_X5_125, tyX5_ok, nmX5, rfl, by decide +kernel, rfl⟩
theorem fp_X5_122 : FP RX5 122 5 17 .boolean := ⟨RX5, TX5, 28, tyX5, rfl, by decide, inX5g, lk_X5_122, tyX5_ok, nmX5, rfl, by decide +kernel, rfl⟩
set_option maxRecDepth 100000 in
theorem cw_yX5_oneOf : Cond.code yX5_oneOf cX5_oneOf 3 (some .int) ∈ gt := (gt_in (w := Cond.code yX5_oneOf cX5_oneOf 3 (some .int)) 774 rfl (by decide +kernel))
theorem dk_yX5_oneOf : dOK yX5_oneOf 1 := ⟨by decide, by decide, by decide +kernel⟩
theorem mv_X5_128 : MV RX5 128 yX5_oneOf cX5_oneOf 3 (some .int) 1 5 := ⟨(gt_in (w := Cond.methodLink RX5 128 yX5_oneOf) 771 (by decide +kernel) (by decide +kernel)), (gt_in (w := Cond.instanceMethod yX5_oneOf) 773 (by decide +kernel) (by decide +kernel)), (gt_in (w := Cond.selects yX5_oneOf.cls yX5_oneOf yX5_oneOf) 22 (by decide +kernel) (by decide +kernel)), ini_RX5, cw_yX5_oneOf, dk_yX5_oneOf, by decide, TX5, 28, rfl⟩
theorem lk_X5_132 : Cond.fieldLink RX5 132 RX5 (TX5 22).2.1 (TX5 22).2.2.1 ∈ gt := (gt_in (w := Cond.fieldLink RX5 132 RX5 "sort" "I") 677 (by decide +kernel) (by decide +kernel))
theorem fl_X5_132 : FL RX5 132 5 22 := ⟨RX5, TX5, 28, rfl, by decide, inX5g, lk_X5_132⟩
theorem fs_X5_132 : FS RX5 132 5 22 := ⟨RX5, TX5, 28, rfl, rfl⟩
theorem fp_X5_132 : FP RX5 132 5 22 .int := ⟨RX5, TX5, 28, tyX5, rfl, by decide, inX5g, lk_X5_132, tyX5_ok, nmX5, rfl, by decide +kernel, rfl⟩
set_option maxRecDepth 100000 in
theorem cw_yX5_figures : Cond.code yX5_figures cX5_figures 5 (some .int) ∈ gt := (gt_in (w := Cond.code yX5_figures cX5_figures 5 (some .int)) 778 rfl (by decide +kernel))
theorem dk_yX5_figures : dOK yX5_figures 2 := ⟨by decide, by decide, by decide +kernel⟩
theorem mv_X5_135 : MV RX5 135 yX5_figures cX5_figures 5 (some .int) 2 5 := ⟨(gt_in (w := Cond.methodLink RX5 135 yX5_figures) 775 (by decide +kernel) (by decide +kernel)), (gt_in (w := Cond.instanceMethod yX5_figures) 777 (by decide +kernel) (by decide +kernel)), (gt_in (w := Cond.selects yX5_figures.cls yX5_figures yX5_figures) 23 (by decide +kernel) (by decide +kernel)), ini_RX5, cw_yX5_figures, dk_yX5_figures, by decide, TX5, 28, rfl⟩
set_option maxRecDepth 100000 in
theorem cw_yX5_statement : Cond.code yX5_statement cX5_statement 2 none ∈ gt := (gt_in (w := Cond.code yX5_statement cX5_statement 2 none) 770 rfl (by decide +kernel))
theorem dk_yX5_statement : dOK yX5_statement 0 := ⟨by decide, by decide, by decide +kernel⟩
theorem mv_X5_138 : MV RX5 138 yX5_statement cX5_statement 2 none 0 5 := ⟨(gt_in (w := Cond.methodLink RX5 138 yX5_statement) 767 (by decide +kernel) (by decide +kernel)), (gt_in (w := Cond.instanceMethod yX5_statement) 769 (by decide +kernel) (by decide +kernel)), (gt_in (w := Cond.selects yX5_statement.cls yX5_statement yX5_statement) 21 (by decide +kernel) (by decide +kernel)), ini_RX5, cw_yX5_statement, dk_yX5_statement, by decide, TX5, 28, rfl⟩
set_option maxRecDepth 100000 in
theorem cw_yX5_isAsItMustBe : Cond.code yX5_isAsItMustBe cX5_isAsItMustBe 1 (some .boolean) ∈ gt := (gt_in (w := Cond.code yX5_isAsItMustBe cX5_isAsItMustBe 1 (some .boolean)) 782 rfl (by decide +kernel))
theorem dk_yX5_isAsItMustBe : dOK yX5_isAsItMustBe 0 := ⟨by decide, by decide, by decide +kernel⟩
theorem mv_X5_141 : MV RX5 141 yX5_isAsItMustBe cX5_isAsItMustBe 1 (some .boolean) 0 5 := ⟨(gt_in (w := Cond.methodLink RX5 141 yX5_isAsItMustBe) 779 (by decide +kernel) (by decide +kernel)), (gt_in (w := Cond.instanceMethod yX5_isAsItMustBe) 781 (by decide +kernel) (by decide +kernel)), (gt_in (w := Cond.selects yX5_isAsItMustBe.cls yX5_isAsItMustBe yX5_isAsItMustBe) 24 (by decide +kernel) (by decide +kernel)), ini_RX5, cw_yX5_isAsItMustBe, dk_yX5_isAsItMustBe, by decide, TX5, 28, rfl⟩
set_option maxRecDepth 100000 in
theorem cw_yX5_take : Cond.code yX5_take cX5_take 2 none ∈ gt := (gt_in (w := Cond.code yX5_take cX5_take 2 none) 786 rfl (by decide +kernel))
theorem dk_yX5_take : dOK yX5_take 0 := ⟨by decide, by decide, by decide +kernel⟩
theorem mv_X5_145 : MV RX5 145 yX5_take cX5_take 2 none 0 5 := ⟨(gt_in (w := Cond.methodLink RX5 145 yX5_take) 783 (by decide +kernel) (by decide +kernel)), (gt_in (w := Cond.instanceMethod yX5_take) 785 (by decide +kernel) (by decide +kernel)), (gt_in (w := Cond.selects yX5_take.cls yX5_take yX5_take) 25 (by decide +kernel) (by decide +kernel)), ini_RX5, cw_yX5_take, dk_yX5_take, by decide, TX5, 28, rfl⟩
set_option maxRecDepth 100000 in
theorem cw_yX5_read : Cond.code yX5_read cX5_read 4 (some .int) ∈ gt := (gt_in (w := Cond.code yX5_read cX5_read 4 (some .int)) 766 rfl (by decide +kernel))
theorem dk_yX5_read : dOK yX5_read 0 := ⟨by decide, by decide, by decide +kernel⟩
theorem mv_X5_148 : MV RX5 148 yX5_read cX5_read 4 (some .int) 0 5 := ⟨(gt_in (w := Cond.methodLink RX5 148 yX5_read) 763 (by decide +kernel) (by decide +kernel)), (gt_in (w := Cond.instanceMethod yX5_read) 765 (by decide +kernel) (by decide +kernel)), (gt_in (w := Cond.selects yX5_read.cls yX5_read yX5_read) 20 (by decide +kernel) (by decide +kernel)), ini_RX5, cw_yX5_read, dk_yX5_read, by decide, TX5, 28, rfl⟩
set_option maxRecDepth 100000 in
theorem cw_yX5_isNoEater : Cond.code yX5_isNoEater cX5_isNoEater 2 (some .boolean) ∈ gt := (gt_in (w := Cond.code yX5_isNoEater cX5_isNoEater 2 (some .boolean)) 814 rfl (by decide +kernel))
theorem dk_yX5_isNoEater : dOK yX5_isNoEater 1 := ⟨by decide, by decide, by decide +kernel⟩
theorem mv_X5_152 : MV RX5 152 yX5_isNoEater cX5_isNoEater 2 (some .boolean) 1 5 := ⟨(gt_in (w := Cond.methodLink RX5 152 yX5_isNoEater) 811 (by decide +kernel) (by decide +kernel)), (gt_in (w := Cond.instanceMethod yX5_isNoEater) 813 (by decide +kernel) (by decide +kernel)), (gt_in (w := Cond.selects yX5_isNoEater.cls yX5_isNoEater yX5_isNoEater) 29 (by decide +kernel) (by decide +kernel)), ini_RX5, cw_yX5_isNoEater, dk_yX5_isNoEater, by decide, TX5, 28, rfl⟩
set_option maxRecDepth 100000 in
theorem cw_yX5_isNoAge : Cond.code yX5_isNoAge cX5_isNoAge 1 (some .boolean) ∈ gt := (gt_in (w := Cond.code yX5_isNoAge cX5_isNoAge 1 (some .boolean)) 821 rfl (by decide +kernel))
theorem dk_yX5_isNoAge : dOK yX5_isNoAge 1 := ⟨by decide, by decide, by decide +kernel⟩
theorem ms_X5_156 : MS RX5 156 yX5_isNoAge cX5_isNoAge 1 (some .boolean) 1 := ⟨(gt_in (w := Cond.methodLink RX5 156 yX5_isNoAge) 819 (by decide +kernel) (by decide +kernel)), (gt_in (w := Cond.static yX5_isNoAge) 820 (by decide +kernel) (by decide +kernel)), ini_RX5, cw_yX5_isNoAge, dk_yX5_isNoAge, by decide⟩
set_option maxRecDepth 100000 in
theorem cw_yX5_change : Cond.code yX5_change cX5_change 5 (some .int) ∈ gt := (gt_in (w := Cond.code yX5_change cX5_change 5 (some .int)) 825 rfl (by decide +kernel))
theorem dk_yX5_change : dOK yX5_change 3 := ⟨by decide, by decide, by decide +kernel⟩
theorem mv_X5_159 : MV RX5 159 yX5_change cX5_change 5 (some .int) 3 5 := ⟨(gt_in (w := Cond.methodLink RX5 159 yX5_change) 822 (by decide +kernel) (by decide +kernel)), (gt_in (w := Cond.instanceMethod yX5_change) 824 (by decide +kernel) (by decide +kernel)), (gt_in (w := Cond.selects yX5_change.cls yX5_change yX5_change) 30 (by decide +kernel) (by decide +kernel)), ini_RX5, cw_yX5_change, dk_yX5_change, by decide, TX5, 28, rfl⟩
theorem cs_X5_163 : Cond.constant RX5 163 1000000000 ∈ gt := (gt_in (w := Cond.constant RX5 163 1000000000) 842 (by decide +kernel) (by decide +kernel))
set_option maxRecDepth 100000 in
theorem cw_yX5_isWrong : Cond.code yX5_isWrong cX5_isWrong 2 (some .int) ∈ gt := (gt_in (w := Cond.code yX5_isWrong cX5_isWrong 2 (some .int)) 850 rfl (by decide +kernel))
theorem dk_yX5_isWrong : dOK yX5_isWrong 1 := ⟨by decide, by decide, by decide +kernel⟩
theorem mv_X5_164 : MV RX5 164 yX5_isWrong cX5_isWrong 2 (some .int) 1 5 := ⟨(gt_in (w := Cond.methodLink RX5 164 yX5_isWrong) 847 (by decide +kernel) (by decide +kernel)), (gt_in (w := Cond.instanceMethod yX5_isWrong) 849 (by decide +kernel) (by decide +kernel)), (gt_in (w := Cond.selects yX5_isWrong.cls yX5_isWrong yX5_isWrong) 31 (by decide +kernel) (by decide +kernel)), ini_RX5, cw_yX5_isWrong, dk_yX5_isWrong, by decide, TX5, 28, rfl⟩
set_option maxRecDepth 100000 in
theorem cw_yX5_slices : Cond.code yX5_slices cX5_slices 3 (some .int) ∈ gt := (gt_in (w := Cond.code yX5_slices cX5_slices 3 (some .int)) 869 rfl (by decide +kernel))
theorem dk_yX5_slices : dOK yX5_slices 1 := ⟨by decide, by decide, by decide +kernel⟩
theorem ms_X5_167 : MS RX5 167 yX5_slices cX5_slices 3 (some .int) 1 := ⟨(gt_in (w := Cond.methodLink RX5 167 yX5_slices) 867 (by decide +kernel) (by decide +kernel)), (gt_in (w := Cond.static yX5_slices) 868 (by decide +kernel) (by decide +kernel)), ini_RX5, cw_yX5_slices, dk_yX5_slices, by decide⟩
set_option maxRecDepth 100000 in
theorem cw_yX5_valueOf : Cond.code yX5_valueOf cX5_valueOf 2 (some .int) ∈ gt := (gt_in (w := Cond.code yX5_valueOf cX5_valueOf 2 (some .int)) 873 rfl (by decide +kernel))
theorem dk_yX5_valueOf : dOK yX5_valueOf 1 := ⟨by decide, by decide, by decide +kernel⟩
theorem mv_X5_171 : MV RX5 171 yX5_valueOf cX5_valueOf 2 (some .int) 1 5 := ⟨(gt_in (w := Cond.methodLink RX5 171 yX5_valueOf) 870 (by decide +kernel) (by decide +kernel)), (gt_in (w := Cond.instanceMethod yX5_valueOf) 872 (by decide +kernel) (by decide +kernel)), (gt_in (w := Cond.selects yX5_valueOf.cls yX5_valueOf yX5_valueOf) 33 (by decide +kernel) (by decide +kernel)), ini_RX5, cw_yX5_valueOf, dk_yX5_valueOf, by decide, TX5, 28, rfl⟩
set_option maxRecDepth 100000 in
theorem cw_yX5_openDays : Cond.code yX5_openDays cX5_openDays 3 (some .int) ∈ gt := (gt_in (w := Cond.code yX5_openDays cX5_openDays 3 (some .int)) 881 rfl (by decide +kernel))
theorem dk_yX5_openDays : dOK yX5_openDays 0 := ⟨by decide, by decide, by decide +kernel⟩
theorem mv_X5_174 : MV RX5 174 yX5_openDays cX5_openDays 3 (some .int) 0 5 := ⟨(gt_in (w := Cond.methodLink RX5 174 yX5_openDays) 878 (by decide +kernel) (by decide +kernel)), (gt_in (w := Cond.instanceMethod yX5_openDays) 880 (by decide +kernel) (by decide +kernel)), (gt_in (w := Cond.selects yX5_openDays.cls yX5_openDays yX5_openDays) 34 (by decide +kernel) (by decide +kernel)), ini_RX5, cw_yX5_openDays, dk_yX5_openDays, by decide, TX5, 28, rfl⟩
theorem lk_X5_177 : Cond.fieldLink RX5 177 RX5 (TX5 24).2.1 (TX5 24).2.2.1 ∈ gt := (gt_in (w := Cond.fieldLink RX5 177 RX5 "brought" "I") 679 (by decide +kernel) (by decide +kernel))
theorem fl_X5_177 : FL RX5 177 5 24 := ⟨RX5, TX5, 28, rfl, by decide, inX5g, lk_X5_177⟩
theorem fs_X5_177 : FS RX5 177 5 24 := ⟨RX5, TX5, 28, rfl, rfl⟩
theorem fp_X5_177 : FP RX5 177 5 24 .int := ⟨RX5, TX5, 28, tyX5, rfl, by decide, inX5g, lk_X5_177, tyX5_ok, nmX5, rfl, by decide +kernel, rfl⟩
set_option maxRecDepth 100000 in
theorem cw_yX5_bestAt : Cond.code yX5_bestAt cX5_bestAt 7 (some .int) ∈ gt := (gt_in (w := Cond.code yX5_bestAt cX5_bestAt 7 (some .int)) 889 rfl (by decide +kernel))
theorem dk_yX5_bestAt : dOK yX5_bestAt 3 := ⟨by decide, by decide, by decide +kernel⟩
theorem mv_X5_180 : MV RX5 180 yX5_bestAt cX5_bestAt 7 (some .int) 3 5 := ⟨(gt_in (w := Cond.methodLink RX5 180 yX5_bestAt) 886 (by decide +kernel) (by decide +kernel)), (gt_in (w := Cond.instanceMethod yX5_bestAt) 888 (by decide +kernel) (by decide +kernel)), (gt_in (w := Cond.selects yX5_bestAt.cls yX5_bestAt yX5_bestAt) 35 (by decide +kernel) (by decide +kernel)), ini_RX5, cw_yX5_bestAt, dk_yX5_bestAt, by decide, TX5, 28, rfl⟩
theorem cs_X5_183 : Cond.constantLong RX5 183 4000000000000000000 ∈ gt := (gt_in (w := Cond.constantLong RX5 183 4000000000000000000) 910 (by decide +kernel) (by decide +kernel))
theorem cs_X5_185 : Cond.constantLong RX5 185 10 ∈ gt := (gt_in (w := Cond.constantLong RX5 185 10) 911 (by decide +kernel) (by decide +kernel))
theorem ml_X5_187 : Cond.methodLink RX5 187 Lib.MathLoose.abs_long.x ∈ gt := (gt_in (w := Cond.methodLink RX5 187 Lib.MathLoose.abs_long.x) 912 (by decide +kernel) (by decide +kernel))
set_option maxRecDepth 100000 in
theorem cw_yX5_shared : Cond.code yX5_shared cX5_shared 8 (some .int) ∈ gt := (gt_in (w := Cond.code yX5_shared cX5_shared 8 (some .int)) 928 rfl (by decide +kernel))
theorem dk_yX5_shared : dOK yX5_shared 2 := ⟨by decide, by decide, by decide +kernel⟩
theorem mv_X5_191 : MV RX5 191 yX5_shared cX5_shared 8 (some .int) 2 5 := ⟨(gt_in (w := Cond.methodLink RX5 191 yX5_shared) 925 (by decide +kernel) (by decide +kernel)), (gt_in (w := Cond.instanceMethod yX5_shared) 927 (by decide +kernel) (by decide +kernel)), (gt_in (w := Cond.selects yX5_shared.cls yX5_shared yX5_shared) 36 (by decide +kernel) (by decide +kernel)), ini_RX5, cw_yX5_shared, dk_yX5_shared, by decide, TX5, 28, rfl⟩
theorem lk_X5_194 : Cond.fieldLink RX5 194 RX5 (TX5 27).2.1 (TX5 27).2.2.1 ∈ gt := (gt_in (w := Cond.fieldLink RX5 194 RX5 "lined" "I") 682 (by decide +kernel) (by decide +kernel))
theorem fl_X5_194 : FL RX5 194 5 27 := ⟨RX5, TX5, 28, rfl, by decide, inX5g, lk_X5_194⟩
theorem fs_X5_194 : FS RX5 194 5 27 := ⟨RX5, TX5, 28, rfl, rfl⟩
set_option maxRecDepth 100000 in
theorem cw_yX5_opened : Cond.code yX5_opened cX5_opened 6 (some .int) ∈ gt := (gt_in (w := Cond.code yX5_opened cX5_opened 6 (some .int)) 936 rfl (by decide +kernel))
theorem dk_yX5_opened : dOK yX5_opened 3 := ⟨by decide, by decide, by decide +kernel⟩
theorem mv_X5_197 : MV RX5 197 yX5_opened cX5_opened 6 (some .int) 3 5 := ⟨(gt_in (w := Cond.methodLink RX5 197 yX5_opened) 933 (by decide +kernel) (by decide +kernel)), (gt_in (w := Cond.instanceMethod yX5_opened) 935 (by decide +kernel) (by decide +kernel)), (gt_in (w := Cond.selects yX5_opened.cls yX5_opened yX5_opened) 37 (by decide +kernel) (by decide +kernel)), ini_RX5, cw_yX5_opened, dk_yX5_opened, by decide, TX5, 28, rfl⟩
theorem fp_X5_194 : FP RX5 194 5 27 .int := ⟨RX5, TX5, 28, tyX5, rfl, by decide, inX5g, lk_X5_194, tyX5_ok, nmX5, rfl, by decide +kernel, rfl⟩
theorem cs_X5_200 : Cond.constant RX5 200 1664525 ∈ gt := (gt_in (w := Cond.constant RX5 200 1664525) 953 (by decide +kernel) (by decide +kernel))
theorem cs_X5_201 : Cond.constant RX5 201 1013904223 ∈ gt := (gt_in (w := Cond.constant RX5 201 1013904223) 954 (by decide +kernel) (by decide +kernel))
theorem cs_X5_202 : Cond.constant RX5 202 2147483647 ∈ gt := (gt_in (w := Cond.constant RX5 202 2147483647) 955 (by decide +kernel) (by decide +kernel))
theorem lk_X0_9 : Cond.fieldLink RX0 9 RX0 (TX0 0).2.1 (TX0 0).2.2.1 ∈ gt := (gt_in (w := Cond.fieldLink RX0 9 RX0 "best" "I") 126 (by decide +kernel) (by decide +kernel))
theorem fl_X0_9 : FL RX0 9 0 0 := ⟨RX0, TX0, 2, rfl, by decide, inX0g, lk_X0_9⟩
theorem fs_X0_9 : FS RX0 9 0 0 := ⟨RX0, TX0, 2, rfl, rfl⟩
theorem fp_X0_9 : FP RX0 9 0 0 .int := ⟨RX0, TX0, 2, tyX0, rfl, by decide, inX0g, lk_X0_9, tyX0_ok, nmX0, rfl, by decide +kernel, rfl⟩
theorem lk_X0_15 : Cond.fieldLink RX0 15 RX0 (TX0 1).2.1 (TX0 1).2.2.1 ∈ gt := (gt_in (w := Cond.fieldLink RX0 15 RX0 "bestValue" "I") 128 (by decide +kernel) (by decide +kernel))
theorem fl_X0_15 : FL RX0 15 0 1 := ⟨RX0, TX0, 2, rfl, by decide, inX0g, lk_X0_15⟩
theorem fs_X0_15 : FS RX0 15 0 1 := ⟨RX0, TX0, 2, rfl, rfl⟩
theorem fp_X0_15 : FP RX0 15 0 1 .int := ⟨RX0, TX0, 2, tyX0, rfl, by decide, inX0g, lk_X0_15, tyX0_ok, nmX0, rfl, by decide +kernel, rfl⟩
theorem lk_X1_9 : Cond.fieldLink RX1 9 RX1 (TX1 0).2.1 (TX1 0).2.2.1 ∈ gt := (gt_in (w := Cond.fieldLink RX1 9 RX1 "slices" "[I") 69 (by decide +kernel) (by decide +kernel))
theorem fl_X1_9 : FL RX1 9 1 0 := ⟨RX1, TX1, 7, rfl, by decide, inX1g, lk_X1_9⟩
theorem fs_X1_9 : FS RX1 9 1 0 := ⟨RX1, TX1, 7, rfl, rfl⟩
theorem lk_X1_15 : Cond.fieldLink RX1 15 RX1 (TX1 1).2.1 (TX1 1).2.2.1 ∈ gt := (gt_in (w := Cond.fieldLink RX1 15 RX1 "opens" "[I") 71 (by decide +kernel) (by decide +kernel))
theorem fl_X1_15 : FL RX1 15 1 1 := ⟨RX1, TX1, 7, rfl, by decide, inX1g, lk_X1_15⟩
theorem fs_X1_15 : FS RX1 15 1 1 := ⟨RX1, TX1, 7, rfl, rfl⟩
theorem lk_X1_18 : Cond.fieldLink RX1 18 RX1 (TX1 2).2.1 (TX1 2).2.2.1 ∈ gt := (gt_in (w := Cond.fieldLink RX1 18 RX1 "settings" "[I") 74 (by decide +kernel) (by decide +kernel))
theorem fl_X1_18 : FL RX1 18 1 2 := ⟨RX1, TX1, 7, rfl, by decide, inX1g, lk_X1_18⟩
theorem fs_X1_18 : FS RX1 18 1 2 := ⟨RX1, TX1, 7, rfl, rfl⟩
theorem lk_X1_23 : Cond.fieldLink RX1 23 RX1 (TX1 3).2.1 (TX1 3).2.2.1 ∈ gt := (gt_in (w := Cond.fieldLink RX1 23 RX1 "eaters" "[[I") 76 (by decide +kernel) (by decide +kernel))
theorem fl_X1_23 : FL RX1 23 1 3 := ⟨RX1, TX1, 7, rfl, by decide, inX1g, lk_X1_23⟩
theorem fs_X1_23 : FS RX1 23 1 3 := ⟨RX1, TX1, 7, rfl, rfl⟩
theorem ml_X1_26 : Cond.methodLink RX1 26 arraycopyName ∈ gt := (gt_in (w := Cond.methodLink RX1 26 arraycopyName) 353 (by decide +kernel) (by decide +kernel))
theorem st_arraycopy : Cond.static arraycopyName ∈ gt := (gt_in (w := Cond.static arraycopyName) 354 (by decide +kernel) (by decide +kernel))
theorem na_arraycopy : Cond.native arraycopyName ∈ gt := (gt_in (w := Cond.native arraycopyName) 355 (by decide +kernel) (by decide +kernel))
theorem ini_System : Cond.initialized "java/lang/System" ∈ gt := (gt_in (w := Cond.initialized "java/lang/System") 51 (by decide +kernel) (by decide +kernel))
theorem lk_X1_32 : Cond.fieldLink RX1 32 RX1 (TX1 4).2.1 (TX1 4).2.2.1 ∈ gt := (gt_in (w := Cond.fieldLink RX1 32 RX1 "eaterCount" "I") 78 (by decide +kernel) (by decide +kernel))
theorem fl_X1_32 : FL RX1 32 1 4 := ⟨RX1, TX1, 7, rfl, by decide, inX1g, lk_X1_32⟩
theorem fs_X1_32 : FS RX1 32 1 4 := ⟨RX1, TX1, 7, rfl, rfl⟩
theorem fp_X1_32 : FP RX1 32 1 4 .int := ⟨RX1, TX1, 7, tyX1, rfl, by decide, inX1g, lk_X1_32, tyX1_ok, nmX1, rfl, by decide +kernel, rfl⟩
theorem lk_X1_36 : Cond.fieldLink RX1 36 RX1 (TX1 5).2.1 (TX1 5).2.2.1 ∈ gt := (gt_in (w := Cond.fieldLink RX1 36 RX1 "day" "I") 80 (by decide +kernel) (by decide +kernel))
theorem fl_X1_36 : FL RX1 36 1 5 := ⟨RX1, TX1, 7, rfl, by decide, inX1g, lk_X1_36⟩
theorem fs_X1_36 : FS RX1 36 1 5 := ⟨RX1, TX1, 7, rfl, rfl⟩
theorem fp_X1_36 : FP RX1 36 1 5 .int := ⟨RX1, TX1, 7, tyX1, rfl, by decide, inX1g, lk_X1_36, tyX1_ok, nmX1, rfl, by decide +kernel, rfl⟩
theorem lk_X1_39 : Cond.fieldLink RX1 39 RX1 (TX1 6).2.1 (TX1 6).2.2.1 ∈ gt := (gt_in (w := Cond.fieldLink RX1 39 RX1 "fewer" "I") 83 (by decide +kernel) (by decide +kernel))
theorem fl_X1_39 : FL RX1 39 1 6 := ⟨RX1, TX1, 7, rfl, by decide, inX1g, lk_X1_39⟩
theorem fs_X1_39 : FS RX1 39 1 6 := ⟨RX1, TX1, 7, rfl, rfl⟩
theorem fp_X1_39 : FP RX1 39 1 6 .int := ⟨RX1, TX1, 7, tyX1, rfl, by decide, inX1g, lk_X1_39, tyX1_ok, nmX1, rfl, by decide +kernel, rfl⟩
theorem mn_X1_42 : MN yX4_within cX4_within 3 (some .boolean) 3 := ⟨(gt_in (w := Cond.static yX4_within) 199 (by decide +kernel) (by decide +kernel)), ini_RX4, cw_yX4_within, dk_yX4_within, by decide⟩
theorem mn_X1_46 : MN yX4_isAge cX4_isAge 1 (some .boolean) 1 := ⟨(gt_in (w := Cond.static yX4_isAge) 382 (by decide +kernel) (by decide +kernel)), ini_RX4, cw_yX4_isAge, dk_yX4_isAge, by decide⟩
theorem ml_X1_53 : Cond.methodLink RX1 53 Lib.Math.min.name ∈ gt := (gt_in (w := Cond.methodLink RX1 53 Lib.Math.min.name) 402 (by decide +kernel) (by decide +kernel))
set_option maxRecDepth 100000 in
theorem cw_yX1_shop : Cond.code yX1_shop cX1_shop 2 none ∈ gt := (gt_in (w := Cond.code yX1_shop cX1_shop 2 none) 397 rfl (by decide +kernel))
theorem dk_yX1_shop : dOK yX1_shop 1 := ⟨by decide, by decide, by decide +kernel⟩
theorem mv_X1_59 : MV RX1 59 yX1_shop cX1_shop 2 none 1 1 := ⟨(gt_in (w := Cond.methodLink RX1 59 yX1_shop) 394 (by decide +kernel) (by decide +kernel)), (gt_in (w := Cond.instanceMethod yX1_shop) 396 (by decide +kernel) (by decide +kernel)), (gt_in (w := Cond.selects yX1_shop.cls yX1_shop yX1_shop) 6 (by decide +kernel) (by decide +kernel)), ini_RX1, cw_yX1_shop, dk_yX1_shop, by decide, TX1, 7, rfl⟩
set_option maxRecDepth 100000 in
theorem cw_yX1_feed : Cond.code yX1_feed cX1_feed 9 none ∈ gt := (gt_in (w := Cond.code yX1_feed cX1_feed 9 none) 410 rfl (by decide +kernel))
theorem dk_yX1_feed : dOK yX1_feed 2 := ⟨by decide, by decide, by decide +kernel⟩
theorem mv_X1_63 : MV RX1 63 yX1_feed cX1_feed 9 none 2 1 := ⟨(gt_in (w := Cond.methodLink RX1 63 yX1_feed) 407 (by decide +kernel) (by decide +kernel)), (gt_in (w := Cond.instanceMethod yX1_feed) 409 (by decide +kernel) (by decide +kernel)), (gt_in (w := Cond.selects yX1_feed.cls yX1_feed yX1_feed) 8 (by decide +kernel) (by decide +kernel)), ini_RX1, cw_yX1_feed, dk_yX1_feed, by decide, TX1, 7, rfl⟩
set_option maxRecDepth 100000 in
theorem cw_yX3_addThrown : Cond.code yX3_addThrown cX3_addThrown 3 none ∈ gt := (gt_in (w := Cond.code yX3_addThrown cX3_addThrown 3 none) 434 rfl (by decide +kernel))
theorem dk_yX3_addThrown : dOK yX3_addThrown 2 := ⟨by decide, by decide, by decide +kernel⟩
theorem mv_X1_67 : MV RX1 67 yX3_addThrown cX3_addThrown 3 none 2 3 := ⟨(gt_in (w := Cond.methodLink RX1 67 yX3_addThrown) 431 (by decide +kernel) (by decide +kernel)), (gt_in (w := Cond.instanceMethod yX3_addThrown) 432 (by decide +kernel) (by decide +kernel)), (gt_in (w := Cond.selects yX3_addThrown.cls yX3_addThrown yX3_addThrown) 433 (by decide +kernel) (by decide +kernel)), ini_RX3, cw_yX3_addThrown, dk_yX3_addThrown, by decide, TX3, 3, rfl⟩
set_option maxRecDepth 100000 in
theorem cw_yX1_bring : Cond.code yX1_bring cX1_bring 4 (some .int) ∈ gt := (gt_in (w := Cond.code yX1_bring cX1_bring 4 (some .int)) 401 rfl (by decide +kernel))
theorem dk_yX1_bring : dOK yX1_bring 2 := ⟨by decide, by decide, by decide +kernel⟩
theorem mv_X1_73 : MV RX1 73 yX1_bring cX1_bring 4 (some .int) 2 1 := ⟨(gt_in (w := Cond.methodLink RX1 73 yX1_bring) 398 (by decide +kernel) (by decide +kernel)), (gt_in (w := Cond.instanceMethod yX1_bring) 400 (by decide +kernel) (by decide +kernel)), (gt_in (w := Cond.selects yX1_bring.cls yX1_bring yX1_bring) 7 (by decide +kernel) (by decide +kernel)), ini_RX1, cw_yX1_bring, dk_yX1_bring, by decide, TX1, 7, rfl⟩
set_option maxRecDepth 100000 in
theorem cw_yX3_addBought : Cond.code yX3_addBought cX3_addBought 3 none ∈ gt := (gt_in (w := Cond.code yX3_addBought cX3_addBought 3 none) 406 rfl (by decide +kernel))
theorem dk_yX3_addBought : dOK yX3_addBought 2 := ⟨by decide, by decide, by decide +kernel⟩
theorem mv_X1_76 : MV RX1 76 yX3_addBought cX3_addBought 3 none 2 3 := ⟨(gt_in (w := Cond.methodLink RX1 76 yX3_addBought) 403 (by decide +kernel) (by decide +kernel)), (gt_in (w := Cond.instanceMethod yX3_addBought) 404 (by decide +kernel) (by decide +kernel)), (gt_in (w := Cond.selects yX3_addBought.cls yX3_addBought yX3_addBought) 405 (by decide +kernel) (by decide +kernel)), ini_RX3, cw_yX3_addBought, dk_yX3_addBought, by decide, TX3, 3, rfl⟩
set_option maxRecDepth 100000 in
theorem cw_yX1_nextAge : Cond.code yX1_nextAge cX1_nextAge 7 (some .int) ∈ gt := (gt_in (w := Cond.code yX1_nextAge cX1_nextAge 7 (some .int)) 414 rfl (by decide +kernel))
theorem dk_yX1_nextAge : dOK yX1_nextAge 1 := ⟨by decide, by decide, by decide +kernel⟩
theorem mv_X1_79 : MV RX1 79 yX1_nextAge cX1_nextAge 7 (some .int) 1 1 := ⟨(gt_in (w := Cond.methodLink RX1 79 yX1_nextAge) 411 (by decide +kernel) (by decide +kernel)), (gt_in (w := Cond.instanceMethod yX1_nextAge) 413 (by decide +kernel) (by decide +kernel)), (gt_in (w := Cond.selects yX1_nextAge.cls yX1_nextAge yX1_nextAge) 9 (by decide +kernel) (by decide +kernel)), ini_RX1, cw_yX1_nextAge, dk_yX1_nextAge, by decide, TX1, 7, rfl⟩
set_option maxRecDepth 100000 in
theorem cw_yX1_inReach : Cond.code yX1_inReach cX1_inReach 4 (some .int) ∈ gt := (gt_in (w := Cond.code yX1_inReach cX1_inReach 4 (some .int)) 418 rfl (by decide +kernel))
theorem dk_yX1_inReach : dOK yX1_inReach 1 := ⟨by decide, by decide, by decide +kernel⟩
theorem mv_X1_83 : MV RX1 83 yX1_inReach cX1_inReach 4 (some .int) 1 1 := ⟨(gt_in (w := Cond.methodLink RX1 83 yX1_inReach) 415 (by decide +kernel) (by decide +kernel)), (gt_in (w := Cond.instanceMethod yX1_inReach) 417 (by decide +kernel) (by decide +kernel)), (gt_in (w := Cond.selects yX1_inReach.cls yX1_inReach yX1_inReach) 10 (by decide +kernel) (by decide +kernel)), ini_RX1, cw_yX1_inReach, dk_yX1_inReach, by decide, TX1, 7, rfl⟩
theorem mv_X1_86 : MV RX1 86 yX1_worthTo cX1_worthTo 8 (some .int) 2 1 := ⟨(gt_in (w := Cond.methodLink RX1 86 yX1_worthTo) 419 (by decide +kernel) (by decide +kernel)), (gt_in (w := Cond.instanceMethod yX1_worthTo) 420 (by decide +kernel) (by decide +kernel)), (gt_in (w := Cond.selects yX1_worthTo.cls yX1_worthTo yX1_worthTo) 421 (by decide +kernel) (by decide +kernel)), ini_RX1, cw_yX1_worthTo, dk_yX1_worthTo, by decide, TX1, 7, rfl⟩
set_option maxRecDepth 100000 in
theorem cw_yX3_addEaten : Cond.code yX3_addEaten cX3_addEaten 5 none ∈ gt := (gt_in (w := Cond.code yX3_addEaten cX3_addEaten 5 none) 426 rfl (by decide +kernel))
theorem dk_yX3_addEaten : dOK yX3_addEaten 3 := ⟨by decide, by decide, by decide +kernel⟩
theorem mv_X1_89 : MV RX1 89 yX3_addEaten cX3_addEaten 5 none 3 3 := ⟨(gt_in (w := Cond.methodLink RX1 89 yX3_addEaten) 423 (by decide +kernel) (by decide +kernel)), (gt_in (w := Cond.instanceMethod yX3_addEaten) 424 (by decide +kernel) (by decide +kernel)), (gt_in (w := Cond.selects yX3_addEaten.cls yX3_addEaten yX3_addEaten) 425 (by decide +kernel) (by decide +kernel)), ini_RX3, cw_yX3_addEaten, dk_yX3_addEaten, by decide, TX3, 3, rfl⟩
set_option maxRecDepth 100000 in
theorem cw_yX3_addLacked : Cond.code yX3_addLacked cX3_addLacked 3 none ∈ gt := (gt_in (w := Cond.code yX3_addLacked cX3_addLacked 3 none) 430 rfl (by decide +kernel))
theorem dk_yX3_addLacked : dOK yX3_addLacked 2 := ⟨by decide, by decide, by decide +kernel⟩
theorem mv_X1_93 : MV RX1 93 yX3_addLacked cX3_addLacked 3 none 2 3 := ⟨(gt_in (w := Cond.methodLink RX1 93 yX3_addLacked) 427 (by decide +kernel) (by decide +kernel)), (gt_in (w := Cond.instanceMethod yX3_addLacked) 428 (by decide +kernel) (by decide +kernel)), (gt_in (w := Cond.selects yX3_addLacked.cls yX3_addLacked yX3_addLacked) 429 (by decide +kernel) (by decide +kernel)), ini_RX3, cw_yX3_addLacked, dk_yX3_addLacked, by decide, TX3, 3, rfl⟩
theorem lk_X2_9 : Cond.fieldLink RX2 9 RX2 (TX2 0).2.1 (TX2 0).2.2.1 ∈ gt := (gt_in (w := Cond.fieldLink RX2 9 RX2 "signs" "[C") 141 (by decide +kernel) (by decide +kernel))
theorem fl_X2_9 : FL RX2 9 2 0 := ⟨RX2, TX2, 2, rfl, by decide, inX2g, lk_X2_9⟩
theorem fs_X2_9 : FS RX2 9 2 0 := ⟨RX2, TX2, 2, rfl, rfl⟩
theorem lk_X2_15 : Cond.fieldLink RX2 15 RX2 (TX2 1).2.1 (TX2 1).2.2.1 ∈ gt := (gt_in (w := Cond.fieldLink RX2 15 RX2 "many" "I") 142 (by decide +kernel) (by decide +kernel))
theorem fl_X2_15 : FL RX2 15 2 1 := ⟨RX2, TX2, 2, rfl, by decide, inX2g, lk_X2_15⟩
theorem fs_X2_15 : FS RX2 15 2 1 := ⟨RX2, TX2, 2, rfl, rfl⟩
theorem fp_X2_15 : FP RX2 15 2 1 .int := ⟨RX2, TX2, 2, tyX2, rfl, by decide, inX2g, lk_X2_15, tyX2_ok, nmX2, rfl, by decide +kernel, rfl⟩
set_option maxRecDepth 100000 in
theorem cw_yX2_sign : Cond.code yX2_sign cX2_sign 2 (some .char) ∈ gt := (gt_in (w := Cond.code yX2_sign cX2_sign 2 (some .char)) 363 rfl (by decide +kernel))
theorem dk_yX2_sign : dOK yX2_sign 1 := ⟨by decide, by decide, by decide +kernel⟩
theorem mv_X2_19 : MV RX2 19 yX2_sign cX2_sign 2 (some .char) 1 2 := ⟨(gt_in (w := Cond.methodLink RX2 19 yX2_sign) 360 (by decide +kernel) (by decide +kernel)), (gt_in (w := Cond.instanceMethod yX2_sign) 362 (by decide +kernel) (by decide +kernel)), (gt_in (w := Cond.selects yX2_sign.cls yX2_sign yX2_sign) 3 (by decide +kernel) (by decide +kernel)), ini_RX2, cw_yX2_sign, dk_yX2_sign, by decide, TX2, 2, rfl⟩
set_option maxRecDepth 100000 in
theorem cw_yX2_digit : Cond.code yX2_digit cX2_digit 2 (some .int) ∈ gt := (gt_in (w := Cond.code yX2_digit cX2_digit 2 (some .int)) 367 rfl (by decide +kernel))
theorem dk_yX2_digit : dOK yX2_digit 1 := ⟨by decide, by decide, by decide +kernel⟩
theorem mv_X2_23 : MV RX2 23 yX2_digit cX2_digit 2 (some .int) 1 2 := ⟨(gt_in (w := Cond.methodLink RX2 23 yX2_digit) 364 (by decide +kernel) (by decide +kernel)), (gt_in (w := Cond.instanceMethod yX2_digit) 366 (by decide +kernel) (by decide +kernel)), (gt_in (w := Cond.selects yX2_digit.cls yX2_digit yX2_digit) 4 (by decide +kernel) (by decide +kernel)), ini_RX2, cw_yX2_digit, dk_yX2_digit, by decide, TX2, 2, rfl⟩
set_option maxRecDepth 100000 in
theorem cw_yJ0_length_8abf5 : Cond.code yJ0_length_8abf5 cJ0_length_8abf5 1 (some .int) ∈ gt := (gt_in (w := Cond.code yJ0_length_8abf5 cJ0_length_8abf5 1 (some .int)) 217 rfl (by decide +kernel))
theorem dk_yJ0_length_8abf5 : dOK yJ0_length_8abf5 0 := ⟨by decide, by decide, by decide +kernel⟩
theorem ini_RJ0 : Cond.initialized RJ0 ∈ gt := (gt_in (w := Cond.initialized RJ0) 45 (by decide +kernel) (by decide +kernel))
set_option maxRecDepth 100000 in
theorem cw_yX2_formBehind : Cond.code yX2_formBehind cX2_formBehind 1 (some (.object "java/lang/String")) ∈ gt := (gt_in (w := Cond.code yX2_formBehind cX2_formBehind 1 (some (.object "java/lang/String"))) 226 rfl (by decide +kernel))
theorem dk_yX2_formBehind : dOK yX2_formBehind 1 := ⟨by decide, by decide, by decide +kernel⟩
theorem ms_X2_35 : MS RX2 35 yX2_formBehind cX2_formBehind 1 (some (.object "java/lang/String")) 1 := ⟨(gt_in (w := Cond.methodLink RX2 35 yX2_formBehind) 224 (by decide +kernel) (by decide +kernel)), (gt_in (w := Cond.static yX2_formBehind) 225 (by decide +kernel) (by decide +kernel)), ini_RX2, cw_yX2_formBehind, dk_yX2_formBehind, by decide⟩
set_option maxRecDepth 100000 in
theorem cw_yJ0_isEmpty_aae02 : Cond.code yJ0_isEmpty_aae02 cJ0_isEmpty_aae02 1 (some .boolean) ∈ gt := (gt_in (w := Cond.code yJ0_isEmpty_aae02 cJ0_isEmpty_aae02 1 (some .boolean)) 235 rfl (by decide +kernel))
theorem dk_yJ0_isEmpty_aae02 : dOK yJ0_isEmpty_aae02 0 := ⟨by decide, by decide, by decide +kernel⟩
set_option maxRecDepth 100000 in
theorem cw_yJ0_charAt_5068e : Cond.code yJ0_charAt_5068e cJ0_charAt_5068e 2 (some .char) ∈ gt := (gt_in (w := Cond.code yJ0_charAt_5068e cJ0_charAt_5068e 2 (some .char)) 239 rfl (by decide +kernel))
theorem dk_yJ0_charAt_5068e : dOK yJ0_charAt_5068e 1 := ⟨by decide, by decide, by decide +kernel⟩
set_option maxRecDepth 100000 in
theorem cw_yX2_isDigit : Cond.code yX2_isDigit cX2_isDigit 1 (some .boolean) ∈ gt := (gt_in (w := Cond.code yX2_isDigit cX2_isDigit 1 (some .boolean)) 276 rfl (by decide +kernel))
theorem dk_yX2_isDigit : dOK yX2_isDigit 1 := ⟨by decide, by decide, by decide +kernel⟩
theorem ms_X2_46 : MS RX2 46 yX2_isDigit cX2_isDigit 1 (some .boolean) 1 := ⟨(gt_in (w := Cond.methodLink RX2 46 yX2_isDigit) 274 (by decide +kernel) (by decide +kernel)), (gt_in (w := Cond.static yX2_isDigit) 275 (by decide +kernel) (by decide +kernel)), ini_RX2, cw_yX2_isDigit, dk_yX2_isDigit, by decide⟩
set_option maxRecDepth 100000 in
theorem cw_yX2_goesOn : Cond.code yX2_goesOn cX2_goesOn 2 (some .boolean) ∈ gt := (gt_in (w := Cond.code yX2_goesOn cX2_goesOn 2 (some .boolean)) 279 rfl (by decide +kernel))
theorem dk_yX2_goesOn : dOK yX2_goesOn 2 := ⟨by decide, by decide, by decide +kernel⟩
theorem ms_X2_50 : MS RX2 50 yX2_goesOn cX2_goesOn 2 (some .boolean) 2 := ⟨(gt_in (w := Cond.methodLink RX2 50 yX2_goesOn) 277 (by decide +kernel) (by decide +kernel)), (gt_in (w := Cond.static yX2_goesOn) 278 (by decide +kernel) (by decide +kernel)), ini_RX2, cw_yX2_goesOn, dk_yX2_goesOn, by decide⟩
set_option maxRecDepth 100000 in
theorem cw_yJ0_indexOf_0f7a4 : Cond.code yJ0_indexOf_0f7a4 cJ0_indexOf_0f7a4 2 (some .int) ∈ gt := (gt_in (w := Cond.code yJ0_indexOf_0f7a4 cJ0_indexOf_0f7a4 2 (some .int)) 284 rfl (by decide +kernel))
theorem dk_yJ0_indexOf_0f7a4 : dOK yJ0_indexOf_0f7a4 1 := ⟨by decide, by decide, by decide +kernel⟩
set_option maxRecDepth 100000 in
theorem cw_yX2_twoDigits : Cond.code yX2_twoDigits cX2_twoDigits 2 (some .int) ∈ gt := (gt_in (w := Cond.code yX2_twoDigits cX2_twoDigits 2 (some .int)) 371 rfl (by decide +kernel))
theorem dk_yX2_twoDigits : dOK yX2_twoDigits 1 := ⟨by decide, by decide, by decide +kernel⟩
theorem mv_X2_71 : MV RX2 71 yX2_twoDigits cX2_twoDigits 2 (some .int) 1 2 := ⟨(gt_in (w := Cond.methodLink RX2 71 yX2_twoDigits) 368 (by decide +kernel) (by decide +kernel)), (gt_in (w := Cond.instanceMethod yX2_twoDigits) 370 (by decide +kernel) (by decide +kernel)), (gt_in (w := Cond.selects yX2_twoDigits.cls yX2_twoDigits yX2_twoDigits) 5 (by decide +kernel) (by decide +kernel)), ini_RX2, cw_yX2_twoDigits, dk_yX2_twoDigits, by decide, TX2, 2, rfl⟩
set_option maxRecDepth 100000 in
theorem cw_yX1_takeIn : Cond.code yX1_takeIn cX1_takeIn 6 (some .boolean) ∈ gt := (gt_in (w := Cond.code yX1_takeIn cX1_takeIn 6 (some .boolean)) 375 rfl (by decide +kernel))
theorem dk_yX1_takeIn : dOK yX1_takeIn 4 := ⟨by decide, by decide, by decide +kernel⟩
theorem mv_X2_74 : MV RX2 74 yX1_takeIn cX1_takeIn 6 (some .boolean) 4 1 := ⟨(gt_in (w := Cond.methodLink RX2 74 yX1_takeIn) 372 (by decide +kernel) (by decide +kernel)), (gt_in (w := Cond.instanceMethod yX1_takeIn) 373 (by decide +kernel) (by decide +kernel)), (gt_in (w := Cond.selects yX1_takeIn.cls yX1_takeIn yX1_takeIn) 374 (by decide +kernel) (by decide +kernel)), ini_RX1, cw_yX1_takeIn, dk_yX1_takeIn, by decide, TX1, 7, rfl⟩
set_option maxRecDepth 100000 in
theorem cw_yX1_putSlices : Cond.code yX1_putSlices cX1_putSlices 3 (some .boolean) ∈ gt := (gt_in (w := Cond.code yX1_putSlices cX1_putSlices 3 (some .boolean)) 380 rfl (by decide +kernel))
theorem dk_yX1_putSlices : dOK yX1_putSlices 2 := ⟨by decide, by decide, by decide +kernel⟩
theorem mv_X2_80 : MV RX2 80 yX1_putSlices cX1_putSlices 3 (some .boolean) 2 1 := ⟨(gt_in (w := Cond.methodLink RX2 80 yX1_putSlices) 377 (by decide +kernel) (by decide +kernel)), (gt_in (w := Cond.instanceMethod yX1_putSlices) 378 (by decide +kernel) (by decide +kernel)), (gt_in (w := Cond.selects yX1_putSlices.cls yX1_putSlices yX1_putSlices) 379 (by decide +kernel) (by decide +kernel)), ini_RX1, cw_yX1_putSlices, dk_yX1_putSlices, by decide, TX1, 7, rfl⟩
theorem lk_X2_84 : Cond.fieldLink RX2 84 RX1 (TX1 1).2.1 (TX1 1).2.2.1 ∈ gt := (gt_in (w := Cond.fieldLink RX2 84 RX1 "opens" "[I") 73 (by decide +kernel) (by decide +kernel))
theorem fl_X2_84 : FL RX2 84 1 1 := ⟨RX1, TX1, 7, rfl, by decide, inX1g, lk_X2_84⟩
theorem fs_X2_84 : FS RX2 84 1 1 := ⟨RX1, TX1, 7, rfl, rfl⟩
set_option maxRecDepth 100000 in
theorem cw_yX1_change : Cond.code yX1_change cX1_change 3 (some .boolean) ∈ gt := (gt_in (w := Cond.code yX1_change cX1_change 3 (some .boolean)) 387 rfl (by decide +kernel))
theorem dk_yX1_change : dOK yX1_change 2 := ⟨by decide, by decide, by decide +kernel⟩
theorem mv_X2_88 : MV RX2 88 yX1_change cX1_change 3 (some .boolean) 2 1 := ⟨(gt_in (w := Cond.methodLink RX2 88 yX1_change) 384 (by decide +kernel) (by decide +kernel)), (gt_in (w := Cond.instanceMethod yX1_change) 385 (by decide +kernel) (by decide +kernel)), (gt_in (w := Cond.selects yX1_change.cls yX1_change yX1_change) 386 (by decide +kernel) (by decide +kernel)), ini_RX1, cw_yX1_change, dk_yX1_change, by decide, TX1, 7, rfl⟩
theorem lk_X2_91 : Cond.fieldLink RX2 91 RX1 (TX1 5).2.1 (TX1 5).2.2.1 ∈ gt := (gt_in (w := Cond.fieldLink RX2 91 RX1 "day" "I") 82 (by decide +kernel) (by decide +kernel))
theorem fl_X2_91 : FL RX2 91 1 5 := ⟨RX1, TX1, 7, rfl, by decide, inX1g, lk_X2_91⟩
theorem fs_X2_91 : FS RX2 91 1 5 := ⟨RX1, TX1, 7, rfl, rfl⟩
theorem mv_X2_94 : MV RX2 94 yX1_passDay cX1_passDay 3 none 1 1 := ⟨(gt_in (w := Cond.methodLink RX2 94 yX1_passDay) 390 (by decide +kernel) (by decide +kernel)), (gt_in (w := Cond.instanceMethod yX1_passDay) 391 (by decide +kernel) (by decide +kernel)), (gt_in (w := Cond.selects yX1_passDay.cls yX1_passDay yX1_passDay) 392 (by decide +kernel) (by decide +kernel)), ini_RX1, cw_yX1_passDay, dk_yX1_passDay, by decide, TX1, 7, rfl⟩
theorem lk_X3_9 : Cond.fieldLink RX3 9 RX3 (TX3 0).2.1 (TX3 0).2.2.1 ∈ gt := (gt_in (w := Cond.fieldLink RX3 9 RX3 "counted" "[I") 107 (by decide +kernel) (by decide +kernel))
theorem fl_X3_9 : FL RX3 9 3 0 := ⟨RX3, TX3, 3, rfl, by decide, inX3g, lk_X3_9⟩
theorem fs_X3_9 : FS RX3 9 3 0 := ⟨RX3, TX3, 3, rfl, rfl⟩
theorem lk_X3_15 : Cond.fieldLink RX3 15 RX3 (TX3 1).2.1 (TX3 1).2.2.1 ∈ gt := (gt_in (w := Cond.fieldLink RX3 15 RX3 "firstAges" "[I") 109 (by decide +kernel) (by decide +kernel))
theorem fl_X3_15 : FL RX3 15 3 1 := ⟨RX3, TX3, 3, rfl, by decide, inX3g, lk_X3_15⟩
theorem fs_X3_15 : FS RX3 15 3 1 := ⟨RX3, TX3, 3, rfl, rfl⟩
theorem ms_X3_18 : MS RX3 18 yJ7_fill_53178 cJ7_fill_53178 4 none 2 := ⟨(gt_in (w := Cond.methodLink RX3 18 yJ7_fill_53178) 476 (by decide +kernel) (by decide +kernel)), (gt_in (w := Cond.static yJ7_fill_53178) 477 (by decide +kernel) (by decide +kernel)), ini_RJ7, cw_yJ7_fill_53178, dk_yJ7_fill_53178, by decide⟩
theorem lk_X3_24 : Cond.fieldLink RX3 24 RX3 (TX3 2).2.1 (TX3 2).2.2.1 ∈ gt := (gt_in (w := Cond.fieldLink RX3 24 RX3 "firstCount" "I") 111 (by decide +kernel) (by decide +kernel))
theorem fl_X3_24 : FL RX3 24 3 2 := ⟨RX3, TX3, 3, rfl, by decide, inX3g, lk_X3_24⟩
theorem fs_X3_24 : FS RX3 24 3 2 := ⟨RX3, TX3, 3, rfl, rfl⟩
theorem fp_X3_24 : FP RX3 24 3 2 .int := ⟨RX3, TX3, 3, tyX3, rfl, by decide, inX3g, lk_X3_24, tyX3_ok, nmX3, rfl, by decide +kernel, rfl⟩
set_option maxRecDepth 100000 in
theorem cw_yX4_letter : Cond.code yX4_letter cX4_letter 3 (some .int) ∈ gt := (gt_in (w := Cond.code yX4_letter cX4_letter 3 (some .int)) 190 rfl (by decide +kernel))
theorem dk_yX4_letter : dOK yX4_letter 1 := ⟨by decide, by decide, by decide +kernel⟩
theorem mv_L_13 : MV RL 13 yX4_letter cX4_letter 3 (some .int) 1 4 := ⟨(gt_in (w := Cond.methodLink RL 13 yX4_letter) 187 (by decide +kernel) (by decide +kernel)), (gt_in (w := Cond.instanceMethod yX4_letter) 188 (by decide +kernel) (by decide +kernel)), (gt_in (w := Cond.selects yX4_letter.cls yX4_letter yX4_letter) 189 (by decide +kernel) (by decide +kernel)), ini_RX4, cw_yX4_letter, dk_yX4_letter, by decide, TX4, 12, rfl⟩
set_option maxRecDepth 100000 in
theorem cw_yX5_letter : Cond.code yX5_letter cX5_letter 2 (some .int) ∈ gt := (gt_in (w := Cond.code yX5_letter cX5_letter 2 (some .int)) 758 rfl (by decide +kernel))
theorem dk_yX5_letter : dOK yX5_letter 1 := ⟨by decide, by decide, by decide +kernel⟩
theorem mv_L_17 : MV RL 17 yX5_letter cX5_letter 2 (some .int) 1 5 := ⟨(gt_in (w := Cond.methodLink RL 17 yX5_letter) 755 (by decide +kernel) (by decide +kernel)), (gt_in (w := Cond.instanceMethod yX5_letter) 756 (by decide +kernel) (by decide +kernel)), (gt_in (w := Cond.selects yX5_letter.cls yX5_letter yX5_letter) 757 (by decide +kernel) (by decide +kernel)), ini_RX5, cw_yX5_letter, dk_yX5_letter, by decide, TX5, 28, rfl⟩
set_option maxRecDepth 100000 in
theorem cw_yX4_house : Cond.code yX4_house cX4_house 3 (some .int) ∈ gt := (gt_in (w := Cond.code yX4_house cX4_house 3 (some .int)) 208 rfl (by decide +kernel))
theorem dk_yX4_house : dOK yX4_house 0 := ⟨by decide, by decide, by decide +kernel⟩
theorem mv_L_18 : MV RL 18 yX4_house cX4_house 3 (some .int) 0 4 := ⟨(gt_in (w := Cond.methodLink RL 18 yX4_house) 205 (by decide +kernel) (by decide +kernel)), (gt_in (w := Cond.instanceMethod yX4_house) 206 (by decide +kernel) (by decide +kernel)), (gt_in (w := Cond.selects yX4_house.cls yX4_house yX4_house) 207 (by decide +kernel) (by decide +kernel)), ini_RX4, cw_yX4_house, dk_yX4_house, by decide, TX4, 12, rfl⟩
set_option maxRecDepth 100000 in
theorem cw_yX5_house : Cond.code yX5_house cX5_house 2 (some .int) ∈ gt := (gt_in (w := Cond.code yX5_house cX5_house 2 (some .int)) 762 rfl (by decide +kernel))
theorem dk_yX5_house : dOK yX5_house 0 := ⟨by decide, by decide, by decide +kernel⟩
theorem mv_L_22 : MV RL 22 yX5_house cX5_house 2 (some .int) 0 5 := ⟨(gt_in (w := Cond.methodLink RL 22 yX5_house) 759 (by decide +kernel) (by decide +kernel)), (gt_in (w := Cond.instanceMethod yX5_house) 760 (by decide +kernel) (by decide +kernel)), (gt_in (w := Cond.selects yX5_house.cls yX5_house yX5_house) 761 (by decide +kernel) (by decide +kernel)), ini_RX5, cw_yX5_house, dk_yX5_house, by decide, TX5, 28, rfl⟩
set_option maxRecDepth 100000 in
theorem cw_yX4_eater : Cond.code yX4_eater cX4_eater 3 (some .int) ∈ gt := (gt_in (w := Cond.code yX4_eater cX4_eater 3 (some .int)) 443 rfl (by decide +kernel))
theorem dk_yX4_eater : dOK yX4_eater 2 := ⟨by decide, by decide, by decide +kernel⟩
theorem mv_L_23 : MV RL 23 yX4_eater cX4_eater 3 (some .int) 2 4 := ⟨(gt_in (w := Cond.methodLink RL 23 yX4_eater) 440 (by decide +kernel) (by decide +kernel)), (gt_in (w := Cond.instanceMethod yX4_eater) 441 (by decide +kernel) (by decide +kernel)), (gt_in (w := Cond.selects yX4_eater.cls yX4_eater yX4_eater) 442 (by decide +kernel) (by decide +kernel)), ini_RX4, cw_yX4_eater, dk_yX4_eater, by decide, TX4, 12, rfl⟩
set_option maxRecDepth 100000 in
theorem cw_yX5_eater : Cond.code yX5_eater cX5_eater 3 (some .int) ∈ gt := (gt_in (w := Cond.code yX5_eater cX5_eater 3 (some .int)) 810 rfl (by decide +kernel))
theorem dk_yX5_eater : dOK yX5_eater 2 := ⟨by decide, by decide, by decide +kernel⟩
theorem mv_L_27 : MV RL 27 yX5_eater cX5_eater 3 (some .int) 2 5 := ⟨(gt_in (w := Cond.methodLink RL 27 yX5_eater) 807 (by decide +kernel) (by decide +kernel)), (gt_in (w := Cond.instanceMethod yX5_eater) 808 (by decide +kernel) (by decide +kernel)), (gt_in (w := Cond.selects yX5_eater.cls yX5_eater yX5_eater) 809 (by decide +kernel) (by decide +kernel)), ini_RX5, cw_yX5_eater, dk_yX5_eater, by decide, TX5, 28, rfl⟩
set_option maxRecDepth 100000 in
theorem cw_yX4_stock : Cond.code yX4_stock cX4_stock 5 (some .int) ∈ gt := (gt_in (w := Cond.code yX4_stock cX4_stock 5 (some .int)) 451 rfl (by decide +kernel))
theorem dk_yX4_stock : dOK yX4_stock 2 := ⟨by decide, by decide, by decide +kernel⟩
theorem mv_L_28 : MV RL 28 yX4_stock cX4_stock 5 (some .int) 2 4 := ⟨(gt_in (w := Cond.methodLink RL 28 yX4_stock) 448 (by decide +kernel) (by decide +kernel)), (gt_in (w := Cond.instanceMethod yX4_stock) 449 (by decide +kernel) (by decide +kernel)), (gt_in (w := Cond.selects yX4_stock.cls yX4_stock yX4_stock) 450 (by decide +kernel) (by decide +kernel)), ini_RX4, cw_yX4_stock, dk_yX4_stock, by decide, TX4, 12, rfl⟩
set_option maxRecDepth 100000 in
theorem cw_yX5_stock : Cond.code yX5_stock cX5_stock 3 (some .int) ∈ gt := (gt_in (w := Cond.code yX5_stock cX5_stock 3 (some .int)) 818 rfl (by decide +kernel))
theorem dk_yX5_stock : dOK yX5_stock 2 := ⟨by decide, by decide, by decide +kernel⟩
theorem mv_L_31 : MV RL 31 yX5_stock cX5_stock 3 (some .int) 2 5 := ⟨(gt_in (w := Cond.methodLink RL 31 yX5_stock) 815 (by decide +kernel) (by decide +kernel)), (gt_in (w := Cond.instanceMethod yX5_stock) 816 (by decide +kernel) (by decide +kernel)), (gt_in (w := Cond.selects yX5_stock.cls yX5_stock yX5_stock) 817 (by decide +kernel) (by decide +kernel)), ini_RX5, cw_yX5_stock, dk_yX5_stock, by decide, TX5, 28, rfl⟩
set_option maxRecDepth 100000 in
theorem cw_yX4_open : Cond.code yX4_open cX4_open 4 (some .int) ∈ gt := (gt_in (w := Cond.code yX4_open cX4_open 4 (some .int)) 456 rfl (by decide +kernel))
theorem dk_yX4_open : dOK yX4_open 2 := ⟨by decide, by decide, by decide +kernel⟩
theorem mv_L_32 : MV RL 32 yX4_open cX4_open 4 (some .int) 2 4 := ⟨(gt_in (w := Cond.methodLink RL 32 yX4_open) 453 (by decide +kernel) (by decide +kernel)), (gt_in (w := Cond.instanceMethod yX4_open) 454 (by decide +kernel) (by decide +kernel)), (gt_in (w := Cond.selects yX4_open.cls yX4_open yX4_open) 455 (by decide +kernel) (by decide +kernel)), ini_RX4, cw_yX4_open, dk_yX4_open, by decide, TX4, 12, rfl⟩
set_option maxRecDepth 100000 in
theorem cw_yX5_open : Cond.code yX5_open cX5_open 3 (some .int) ∈ gt := (gt_in (w := Cond.code yX5_open cX5_open 3 (some .int)) 829 rfl (by decide +kernel))
theorem dk_yX5_open : dOK yX5_open 2 := ⟨by decide, by decide, by decide +kernel⟩
theorem mv_L_35 : MV RL 35 yX5_open cX5_open 3 (some .int) 2 5 := ⟨(gt_in (w := Cond.methodLink RL 35 yX5_open) 826 (by decide +kernel) (by decide +kernel)), (gt_in (w := Cond.instanceMethod yX5_open) 827 (by decide +kernel) (by decide +kernel)), (gt_in (w := Cond.selects yX5_open.cls yX5_open yX5_open) 828 (by decide +kernel) (by decide +kernel)), ini_RX5, cw_yX5_open, dk_yX5_open, by decide, TX5, 28, rfl⟩
set_option maxRecDepth 100000 in
theorem cw_yX4_set : Cond.code yX4_set cX4_set 5 (some .int) ∈ gt := (gt_in (w := Cond.code yX4_set cX4_set 5 (some .int)) 460 rfl (by decide +kernel))
theorem dk_yX4_set : dOK yX4_set 2 := ⟨by decide, by decide, by decide +kernel⟩
theorem mv_L_36 : MV RL 36 yX4_set cX4_set 5 (some .int) 2 4 := ⟨(gt_in (w := Cond.methodLink RL 36 yX4_set) 457 (by decide +kernel) (by decide +kernel)), (gt_in (w := Cond.instanceMethod yX4_set) 458 (by decide +kernel) (by decide +kernel)), (gt_in (w := Cond.selects yX4_set.cls yX4_set yX4_set) 459 (by decide +kernel) (by decide +kernel)), ini_RX4, cw_yX4_set, dk_yX4_set, by decide, TX4, 12, rfl⟩
set_option maxRecDepth 100000 in
theorem cw_yX5_set : Cond.code yX5_set cX5_set 3 (some .int) ∈ gt := (gt_in (w := Cond.code yX5_set cX5_set 3 (some .int)) 833 rfl (by decide +kernel))
theorem dk_yX5_set : dOK yX5_set 2 := ⟨by decide, by decide, by decide +kernel⟩
theorem mv_L_39 : MV RL 39 yX5_set cX5_set 3 (some .int) 2 5 := ⟨(gt_in (w := Cond.methodLink RL 39 yX5_set) 830 (by decide +kernel) (by decide +kernel)), (gt_in (w := Cond.instanceMethod yX5_set) 831 (by decide +kernel) (by decide +kernel)), (gt_in (w := Cond.selects yX5_set.cls yX5_set yX5_set) 832 (by decide +kernel) (by decide +kernel)), ini_RX5, cw_yX5_set, dk_yX5_set, by decide, TX5, 28, rfl⟩
set_option maxRecDepth 100000 in
theorem cw_yX4_worth : Cond.code yX4_worth cX4_worth 4 (some .int) ∈ gt := (gt_in (w := Cond.code yX4_worth cX4_worth 4 (some .int)) 465 rfl (by decide +kernel))
theorem dk_yX4_worth : dOK yX4_worth 2 := ⟨by decide, by decide, by decide +kernel⟩
theorem mv_L_40 : MV RL 40 yX4_worth cX4_worth 4 (some .int) 2 4 := ⟨(gt_in (w := Cond.methodLink RL 40 yX4_worth) 462 (by decide +kernel) (by decide +kernel)), (gt_in (w := Cond.instanceMethod yX4_worth) 463 (by decide +kernel) (by decide +kernel)), (gt_in (w := Cond.selects yX4_worth.cls yX4_worth yX4_worth) 464 (by decide +kernel) (by decide +kernel)), ini_RX4, cw_yX4_worth, dk_yX4_worth, by decide, TX4, 12, rfl⟩
set_option maxRecDepth 100000 in
theorem cw_yX5_worth : Cond.code yX5_worth cX5_worth 4 (some .int) ∈ gt := (gt_in (w := Cond.code yX5_worth cX5_worth 4 (some .int)) 837 rfl (by decide +kernel))
theorem dk_yX5_worth : dOK yX5_worth 2 := ⟨by decide, by decide, by decide +kernel⟩
theorem mv_L_43 : MV RL 43 yX5_worth cX5_worth 4 (some .int) 2 5 := ⟨(gt_in (w := Cond.methodLink RL 43 yX5_worth) 834 (by decide +kernel) (by decide +kernel)), (gt_in (w := Cond.instanceMethod yX5_worth) 835 (by decide +kernel) (by decide +kernel)), (gt_in (w := Cond.selects yX5_worth.cls yX5_worth yX5_worth) 836 (by decide +kernel) (by decide +kernel)), ini_RX5, cw_yX5_worth, dk_yX5_worth, by decide, TX5, 28, rfl⟩
set_option maxRecDepth 100000 in
theorem cw_yX4_dayOn : Cond.code yX4_dayOn cX4_dayOn 1 (some .int) ∈ gt := (gt_in (w := Cond.code yX4_dayOn cX4_dayOn 1 (some .int)) 470 rfl (by decide +kernel))
theorem dk_yX4_dayOn : dOK yX4_dayOn 0 := ⟨by decide, by decide, by decide +kernel⟩
theorem mv_L_44 : MV RL 44 yX4_dayOn cX4_dayOn 1 (some .int) 0 4 := ⟨(gt_in (w := Cond.methodLink RL 44 yX4_dayOn) 467 (by decide +kernel) (by decide +kernel)), (gt_in (w := Cond.instanceMethod yX4_dayOn) 468 (by decide +kernel) (by decide +kernel)), (gt_in (w := Cond.selects yX4_dayOn.cls yX4_dayOn yX4_dayOn) 469 (by decide +kernel) (by decide +kernel)), ini_RX4, cw_yX4_dayOn, dk_yX4_dayOn, by decide, TX4, 12, rfl⟩
set_option maxRecDepth 100000 in
theorem cw_yX5_dayOn : Cond.code yX5_dayOn cX5_dayOn 1 (some .int) ∈ gt := (gt_in (w := Cond.code yX5_dayOn cX5_dayOn 1 (some .int)) 841 rfl (by decide +kernel))
theorem dk_yX5_dayOn : dOK yX5_dayOn 0 := ⟨by decide, by decide, by decide +kernel⟩
theorem mv_L_47 : MV RL 47 yX5_dayOn cX5_dayOn 1 (some .int) 0 5 := ⟨(gt_in (w := Cond.methodLink RL 47 yX5_dayOn) 838 (by decide +kernel) (by decide +kernel)), (gt_in (w := Cond.instanceMethod yX5_dayOn) 839 (by decide +kernel) (by decide +kernel)), (gt_in (w := Cond.selects yX5_dayOn.cls yX5_dayOn yX5_dayOn) 840 (by decide +kernel) (by decide +kernel)), ini_RX5, cw_yX5_dayOn, dk_yX5_dayOn, by decide, TX5, 28, rfl⟩
set_option maxRecDepth 100000 in
theorem cw_yX4_total : Cond.code yX4_total cX4_total 4 (some .int) ∈ gt := (gt_in (w := Cond.code yX4_total cX4_total 4 (some .int)) 483 rfl (by decide +kernel))
theorem dk_yX4_total : dOK yX4_total 2 := ⟨by decide, by decide, by decide +kernel⟩
theorem mv_L_48 : MV RL 48 yX4_total cX4_total 4 (some .int) 2 4 := ⟨(gt_in (w := Cond.methodLink RL 48 yX4_total) 480 (by decide +kernel) (by decide +kernel)), (gt_in (w := Cond.instanceMethod yX4_total) 481 (by decide +kernel) (by decide +kernel)), (gt_in (w := Cond.selects yX4_total.cls yX4_total yX4_total) 482 (by decide +kernel) (by decide +kernel)), ini_RX4, cw_yX4_total, dk_yX4_total, by decide, TX4, 12, rfl⟩
set_option maxRecDepth 100000 in
theorem cw_yX5_total : Cond.code yX5_total cX5_total 3 (some .int) ∈ gt := (gt_in (w := Cond.code yX5_total cX5_total 3 (some .int)) 846 rfl (by decide +kernel))
theorem dk_yX5_total : dOK yX5_total 2 := ⟨by decide, by decide, by decide +kernel⟩
theorem mv_L_51 : MV RL 51 yX5_total cX5_total 3 (some .int) 2 5 := ⟨(gt_in (w := Cond.methodLink RL 51 yX5_total) 843 (by decide +kernel) (by decide +kernel)), (gt_in (w := Cond.instanceMethod yX5_total) 844 (by decide +kernel) (by decide +kernel)), (gt_in (w := Cond.selects yX5_total.cls yX5_total yX5_total) 845 (by decide +kernel) (by decide +kernel)), ini_RX5, cw_yX5_total, dk_yX5_total, by decide, TX5, 28, rfl⟩
set_option maxRecDepth 100000 in
theorem cw_yX4_left : Cond.code yX4_left cX4_left 4 (some .int) ∈ gt := (gt_in (w := Cond.code yX4_left cX4_left 4 (some .int)) 491 rfl (by decide +kernel))
theorem dk_yX4_left : dOK yX4_left 2 := ⟨by decide, by decide, by decide +kernel⟩
theorem mv_L_52 : MV RL 52 yX4_left cX4_left 4 (some .int) 2 4 := ⟨(gt_in (w := Cond.methodLink RL 52 yX4_left) 488 (by decide +kernel) (by decide +kernel)), (gt_in (w := Cond.instanceMethod yX4_left) 489 (by decide +kernel) (by decide +kernel)), (gt_in (w := Cond.selects yX4_left.cls yX4_left yX4_left) 490 (by decide +kernel) (by decide +kernel)), ini_RX4, cw_yX4_left, dk_yX4_left, by decide, TX4, 12, rfl⟩
set_option maxRecDepth 100000 in
theorem cw_yX5_left : Cond.code yX5_left cX5_left 3 (some .int) ∈ gt := (gt_in (w := Cond.code yX5_left cX5_left 3 (some .int)) 858 rfl (by decide +kernel))
theorem dk_yX5_left : dOK yX5_left 2 := ⟨by decide, by decide, by decide +kernel⟩
theorem mv_L_55 : MV RL 55 yX5_left cX5_left 3 (some .int) 2 5 := ⟨(gt_in (w := Cond.methodLink RL 55 yX5_left) 855 (by decide +kernel) (by decide +kernel)), (gt_in (w := Cond.instanceMethod yX5_left) 856 (by decide +kernel) (by decide +kernel)), (gt_in (w := Cond.selects yX5_left.cls yX5_left yX5_left) 857 (by decide +kernel) (by decide +kernel)), ini_RX5, cw_yX5_left, dk_yX5_left, by decide, TX5, 28, rfl⟩
set_option maxRecDepth 100000 in
theorem cw_yX4_never : Cond.code yX4_never cX4_never 2 (some .int) ∈ gt := (gt_in (w := Cond.code yX4_never cX4_never 2 (some .int)) 495 rfl (by decide +kernel))
theorem dk_yX4_never : dOK yX4_never 0 := ⟨by decide, by decide, by decide +kernel⟩
theorem mv_L_56 : MV RL 56 yX4_never cX4_never 2 (some .int) 0 4 := ⟨(gt_in (w := Cond.methodLink RL 56 yX4_never) 492 (by decide +kernel) (by decide +kernel)), (gt_in (w := Cond.instanceMethod yX4_never) 493 (by decide +kernel) (by decide +kernel)), (gt_in (w := Cond.selects yX4_never.cls yX4_never yX4_never) 494 (by decide +kernel) (by decide +kernel)), ini_RX4, cw_yX4_never, dk_yX4_never, by decide, TX4, 12, rfl⟩
set_option maxRecDepth 100000 in
theorem cw_yX5_never : Cond.code yX5_never cX5_never 2 (some .int) ∈ gt := (gt_in (w := Cond.code yX5_never cX5_never 2 (some .int)) 862 rfl (by decide +kernel))
theorem dk_yX5_never : dOK yX5_never 0 := ⟨by decide, by decide, by decide +kernel⟩
theorem mv_L_59 : MV RL 59 yX5_never cX5_never 2 (some .int) 0 5 := ⟨(gt_in (w := Cond.methodLink RL 59 yX5_never) 859 (by decide +kernel) (by decide +kernel)), (gt_in (w := Cond.instanceMethod yX5_never) 860 (by decide +kernel) (by decide +kernel)), (gt_in (w := Cond.selects yX5_never.cls yX5_never yX5_never) 861 (by decide +kernel) (by decide +kernel)), ini_RX5, cw_yX5_never, dk_yX5_never, by decide, TX5, 28, rfl⟩
set_option maxRecDepth 100000 in
theorem cw_yX4_out : Cond.code yX4_out cX4_out 5 (some .int) ∈ gt := (gt_in (w := Cond.code yX4_out cX4_out 5 (some .int)) 499 rfl (by decide +kernel))
theorem dk_yX4_out : dOK yX4_out 1 := ⟨by decide, by decide, by decide +kernel⟩
theorem mv_L_60 : MV RL 60 yX4_out cX4_out 5 (some .int) 1 4 := ⟨(gt_in (w := Cond.methodLink RL 60 yX4_out) 496 (by decide +kernel) (by decide +kernel)), (gt_in (w := Cond.instanceMethod yX4_out) 497 (by decide +kernel) (by decide +kernel)), (gt_in (w := Cond.selects yX4_out.cls yX4_out yX4_out) 498 (by decide +kernel) (by decide +kernel)), ini_RX4, cw_yX4_out, dk_yX4_out, by decide, TX4, 12, rfl⟩
set_option maxRecDepth 100000 in
theorem cw_yX5_out : Cond.code yX5_out cX5_out 7 (some .int) ∈ gt := (gt_in (w := Cond.code yX5_out cX5_out 7 (some .int)) 866 rfl (by decide +kernel))
theorem dk_yX5_out : dOK yX5_out 1 := ⟨by decide, by decide, by decide +kernel⟩
theorem mv_L_63 : MV RL 63 yX5_out cX5_out 7 (some .int) 1 5 := ⟨(gt_in (w := Cond.methodLink RL 63 yX5_out) 863 (by decide +kernel) (by decide +kernel)), (gt_in (w := Cond.instanceMethod yX5_out) 864 (by decide +kernel) (by decide +kernel)), (gt_in (w := Cond.selects yX5_out.cls yX5_out yX5_out) 865 (by decide +kernel) (by decide +kernel)), ini_RX5, cw_yX5_out, dk_yX5_out, by decide, TX5, 28, rfl⟩
set_option maxRecDepth 100000 in
theorem cw_yX4_less : Cond.code yX4_less cX4_less 4 (some .int) ∈ gt := (gt_in (w := Cond.code yX4_less cX4_less 4 (some .int)) 520 rfl (by decide +kernel))
theorem dk_yX4_less : dOK yX4_less 1 := ⟨by decide, by decide, by decide +kernel⟩
theorem mv_L_64 : MV RL 64 yX4_less cX4_less 4 (some .int) 1 4 := ⟨(gt_in (w := Cond.methodLink RL 64 yX4_less) 517 (by decide +kernel) (by decide +kernel)), (gt_in (w := Cond.instanceMethod yX4_less) 518 (by decide +kernel) (by decide +kernel)), (gt_in (w := Cond.selects yX4_less.cls yX4_less yX4_less) 519 (by decide +kernel) (by decide +kernel)), ini_RX4, cw_yX4_less, dk_yX4_less, by decide, TX4, 12, rfl⟩
set_option maxRecDepth 100000 in
theorem cw_yX5_less : Cond.code yX5_less cX5_less 5 (some .int) ∈ gt := (gt_in (w := Cond.code yX5_less cX5_less 5 (some .int)) 877 rfl (by decide +kernel))
theorem dk_yX5_less : dOK yX5_less 1 := ⟨by decide, by decide, by decide +kernel⟩
theorem mv_L_67 : MV RL 67 yX5_less cX5_less 5 (some .int) 1 5 := ⟨(gt_in (w := Cond.methodLink RL 67 yX5_less) 874 (by decide +kernel) (by decide +kernel)), (gt_in (w := Cond.instanceMethod yX5_less) 875 (by decide +kernel) (by decide +kernel)), (gt_in (w := Cond.selects yX5_less.cls yX5_less yX5_less) 876 (by decide +kernel) (by decide +kernel)), ini_RX5, cw_yX5_less, dk_yX5_less, by decide, TX5, 28, rfl⟩
set_option maxRecDepth 100000 in
theorem cw_yX4_best : Cond.code yX4_best cX4_best 3 (some .int) ∈ gt := (gt_in (w := Cond.code yX4_best cX4_best 3 (some .int)) 528 rfl (by decide +kernel))
theorem dk_yX4_best : dOK yX4_best 1 := ⟨by decide, by decide, by decide +kernel⟩
theorem mv_L_68 : MV RL 68 yX4_best cX4_best 3 (some .int) 1 4 := ⟨(gt_in (w := Cond.methodLink RL 68 yX4_best) 525 (by decide +kernel) (by decide +kernel)), (gt_in (w := Cond.instanceMethod yX4_best) 526 (by decide +kernel) (by decide +kernel)), (gt_in (w := Cond.selects yX4_best.cls yX4_best yX4_best) 527 (by decide +kernel) (by decide +kernel)), ini_RX4, cw_yX4_best, dk_yX4_best, by decide, TX4, 12, rfl⟩
set_option maxRecDepth 100000 in
theorem cw_yX5_best : Cond.code yX5_best cX5_best 2 (some .int) ∈ gt := (gt_in (w := Cond.code yX5_best cX5_best 2 (some .int)) 885 rfl (by decide +kernel))
theorem dk_yX5_best : dOK yX5_best 1 := ⟨by decide, by decide, by decide +kernel⟩
theorem mv_L_71 : MV RL 71 yX5_best cX5_best 2 (some .int) 1 5 := ⟨(gt_in (w := Cond.methodLink RL 71 yX5_best) 882 (by decide +kernel) (by decide +kernel)), (gt_in (w := Cond.instanceMethod yX5_best) 883 (by decide +kernel) (by decide +kernel)), (gt_in (w := Cond.selects yX5_best.cls yX5_best yX5_best) 884 (by decide +kernel) (by decide +kernel)), ini_RX5, cw_yX5_best, dk_yX5_best, by decide, TX5, 28, rfl⟩
set_option maxRecDepth 100000 in
theorem cw_yX4_buying : Cond.code yX4_buying cX4_buying 3 (some .int) ∈ gt := (gt_in (w := Cond.code yX4_buying cX4_buying 3 (some .int)) 536 rfl (by decide +kernel))
theorem dk_yX4_buying : dOK yX4_buying 1 := ⟨by decide, by decide, by decide +kernel⟩
theorem mv_L_72 : MV RL 72 yX4_buying cX4_buying 3 (some .int) 1 4 := ⟨(gt_in (w := Cond.methodLink RL 72 yX4_buying) 533 (by decide +kernel) (by decide +kernel)), (gt_in (w := Cond.instanceMethod yX4_buying) 534 (by decide +kernel) (by decide +kernel)), (gt_in (w := Cond.selects yX4_buying.cls yX4_buying yX4_buying) 535 (by decide +kernel) (by decide +kernel)), ini_RX4, cw_yX4_buying, dk_yX4_buying, by decide, TX4, 12, rfl⟩
set_option maxRecDepth 100000 in
theorem cw_yX5_buying : Cond.code yX5_buying cX5_buying 2 (some .int) ∈ gt := (gt_in (w := Cond.code yX5_buying cX5_buying 2 (some .int)) 893 rfl (by decide +kernel))
theorem dk_yX5_buying : dOK yX5_buying 1 := ⟨by decide, by decide, by decide +kernel⟩
theorem mv_L_75 : MV RL 75 yX5_buying cX5_buying 2 (some .int) 1 5 := ⟨(gt_in (w := Cond.methodLink RL 75 yX5_buying) 890 (by decide +kernel) (by decide +kernel)), (gt_in (w := Cond.instanceMethod yX5_buying) 891 (by decide +kernel) (by decide +kernel)), (gt_in (w := Cond.selects yX5_buying.cls yX5_buying yX5_buying) 892 (by decide +kernel) (by decide +kernel)), ini_RX5, cw_yX5_buying, dk_yX5_buying, by decide, TX5, 28, rfl⟩
set_option maxRecDepth 100000 in
theorem cw_yX4_close : Cond.code yX4_close cX4_close 2 (some .int) ∈ gt := (gt_in (w := Cond.code yX4_close cX4_close 2 (some .int)) 540 rfl (by decide +kernel))
theorem dk_yX4_close : dOK yX4_close 0 := ⟨by decide, by decide, by decide +kernel⟩
theorem mv_L_76 : MV RL 76 yX4_close cX4_close 2 (some .int) 0 4 := ⟨(gt_in (w := Cond.methodLink RL 76 yX4_close) 537 (by decide +kernel) (by decide +kernel)), (gt_in (w := Cond.instanceMethod yX4_close) 538 (by decide +kernel) (by decide +kernel)), (gt_in (w := Cond.selects yX4_close.cls yX4_close yX4_close) 539 (by decide +kernel) (by decide +kernel)), ini_RX4, cw_yX4_close, dk_yX4_close, by decide, TX4, 12, rfl⟩
set_option maxRecDepth 100000 in
theorem cw_yX5_close : Cond.code yX5_close cX5_close 5 (some .int) ∈ gt := (gt_in (w := Cond.code yX5_close cX5_close 5 (some .int)) 905 rfl (by decide +kernel))
theorem dk_yX5_close : dOK yX5_close 0 := ⟨by decide, by decide, by decide +kernel⟩
theorem mv_L_79 : MV RL 79 yX5_close cX5_close 5 (some .int) 0 5 := ⟨(gt_in (w := Cond.methodLink RL 79 yX5_close) 902 (by decide +kernel) (by decide +kernel)), (gt_in (w := Cond.instanceMethod yX5_close) 903 (by decide +kernel) (by decide +kernel)), (gt_in (w := Cond.selects yX5_close.cls yX5_close yX5_close) 904 (by decide +kernel) (by decide +kernel)), ini_RX5, cw_yX5_close, dk_yX5_close, by decide, TX5, 28, rfl⟩
set_option maxRecDepth 100000 in
theorem cw_yX4_half : Cond.code yX4_half cX4_half 3 (some .int) ∈ gt := (gt_in (w := Cond.code yX4_half cX4_half 3 (some .int)) 544 rfl (by decide +kernel))
theorem dk_yX4_half : dOK yX4_half 1 := ⟨by decide, by decide, by decide +kernel⟩
theorem mv_L_80 : MV RL 80 yX4_half cX4_half 3 (some .int) 1 4 := ⟨(gt_in (w := Cond.methodLink RL 80 yX4_half) 541 (by decide +kernel) (by decide +kernel)), (gt_in (w := Cond.instanceMethod yX4_half) 542 (by decide +kernel) (by decide +kernel)), (gt_in (w := Cond.selects yX4_half.cls yX4_half yX4_half) 543 (by decide +kernel) (by decide +kernel)), ini_RX4, cw_yX4_half, dk_yX4_half, by decide, TX4, 12, rfl⟩
set_option maxRecDepth 100000 in
theorem cw_yX5_half : Cond.code yX5_half cX5_half 2 (some .int) ∈ gt := (gt_in (w := Cond.code yX5_half cX5_half 2 (some .int)) 897 rfl (by decide +kernel))
theorem dk_yX5_half : dOK yX5_half 1 := ⟨by decide, by decide, by decide +kernel⟩
theorem mv_L_83 : MV RL 83 yX5_half cX5_half 2 (some .int) 1 5 := ⟨(gt_in (w := Cond.methodLink RL 83 yX5_half) 894 (by decide +kernel) (by decide +kernel)), (gt_in (w := Cond.instanceMethod yX5_half) 895 (by decide +kernel) (by decide +kernel)), (gt_in (w := Cond.selects yX5_half.cls yX5_half yX5_half) 896 (by decide +kernel) (by decide +kernel)), ini_RX5, cw_yX5_half, dk_yX5_half, by decide, TX5, 28, rfl⟩
set_option maxRecDepth 100000 in
theorem cw_yX4_pays : Cond.code yX4_pays cX4_pays 3 (some .int) ∈ gt := (gt_in (w := Cond.code yX4_pays cX4_pays 3 (some .int)) 548 rfl (by decide +kernel))
theorem dk_yX4_pays : dOK yX4_pays 1 := ⟨by decide, by decide, by decide +kernel⟩
theorem mv_L_84 : MV RL 84 yX4_pays cX4_pays 3 (some .int) 1 4 := ⟨(gt_in (w := Cond.methodLink RL 84 yX4_pays) 545 (by decide +kernel) (by decide +kernel)), (gt_in (w := Cond.instanceMethod yX4_pays) 546 (by decide +kernel) (by decide +kernel)), (gt_in (w := Cond.selects yX4_pays.cls yX4_pays yX4_pays) 547 (by decide +kernel) (by decide +kernel)), ini_RX4, cw_yX4_pays, dk_yX4_pays, by decide, TX4, 12, rfl⟩
set_option maxRecDepth 100000 in
theorem cw_yX5_pays : Cond.code yX5_pays cX5_pays 3 (some .int) ∈ gt := (gt_in (w := Cond.code yX5_pays cX5_pays 3 (some .int)) 901 rfl (by decide +kernel))
theorem dk_yX5_pays : dOK yX5_pays 1 := ⟨by decide, by decide, by decide +kernel⟩
theorem mv_L_87 : MV RL 87 yX5_pays cX5_pays 3 (some .int) 1 5 := ⟨(gt_in (w := Cond.methodLink RL 87 yX5_pays) 898 (by decide +kernel) (by decide +kernel)), (gt_in (w := Cond.instanceMethod yX5_pays) 899 (by decide +kernel) (by decide +kernel)), (gt_in (w := Cond.selects yX5_pays.cls yX5_pays yX5_pays) 900 (by decide +kernel) (by decide +kernel)), ini_RX5, cw_yX5_pays, dk_yX5_pays, by decide, TX5, 28, rfl⟩
set_option maxRecDepth 100000 in
theorem cw_yX4_mean : Cond.code yX4_mean cX4_mean 8 (some .long) ∈ gt := (gt_in (w := Cond.code yX4_mean cX4_mean 8 (some .long)) 552 rfl (by decide +kernel))
theorem dk_yX4_mean : dOK yX4_mean 1 := ⟨by decide, by decide, by decide +kernel⟩
theorem mv_L_88 : MV RL 88 yX4_mean cX4_mean 8 (some .long) 1 4 := ⟨(gt_in (w := Cond.methodLink RL 88 yX4_mean) 549 (by decide +kernel) (by decide +kernel)), (gt_in (w := Cond.instanceMethod yX4_mean) 550 (by decide +kernel) (by decide +kernel)), (gt_in (w := Cond.selects yX4_mean.cls yX4_mean yX4_mean) 551 (by decide +kernel) (by decide +kernel)), ini_RX4, cw_yX4_mean, dk_yX4_mean, by decide, TX4, 12, rfl⟩
set_option maxRecDepth 100000 in
theorem cw_yX5_mean : Cond.code yX5_mean cX5_mean 12 (some .long) ∈ gt := (gt_in (w := Cond.code yX5_mean cX5_mean 12 (some .long)) 909 rfl (by decide +kernel))
theorem dk_yX5_mean : dOK yX5_mean 1 := ⟨by decide, by decide, by decide +kernel⟩
theorem mv_L_92 : MV RL 92 yX5_mean cX5_mean 12 (some .long) 1 5 := ⟨(gt_in (w := Cond.methodLink RL 92 yX5_mean) 906 (by decide +kernel) (by decide +kernel)), (gt_in (w := Cond.instanceMethod yX5_mean) 907 (by decide +kernel) (by decide +kernel)), (gt_in (w := Cond.selects yX5_mean.cls yX5_mean yX5_mean) 908 (by decide +kernel) (by decide +kernel)), ini_RX5, cw_yX5_mean, dk_yX5_mean, by decide, TX5, 28, rfl⟩
set_option maxRecDepth 100000 in
theorem cw_yX4_likes : Cond.code yX4_likes cX4_likes 4 (some .int) ∈ gt := (gt_in (w := Cond.code yX4_likes cX4_likes 4 (some .int)) 575 rfl (by decide +kernel))
theorem dk_yX4_likes : dOK yX4_likes 1 := ⟨by decide, by decide, by decide +kernel⟩
theorem mv_L_93 : MV RL 93 yX4_likes cX4_likes 4 (some .int) 1 4 := ⟨(gt_in (w := Cond.methodLink RL 93 yX4_likes) 572 (by decide +kernel) (by decide +kernel)), (gt_in (w := Cond.instanceMethod yX4_likes) 573 (by decide +kernel) (by decide +kernel)), (gt_in (w := Cond.selects yX4_likes.cls yX4_likes yX4_likes) 574 (by decide +kernel) (by decide +kernel)), ini_RX4, cw_yX4_likes, dk_yX4_likes, by decide, TX4, 12, rfl⟩
set_option maxRecDepth 100000 in
theorem cw_yX5_likes : Cond.code yX5_likes cX5_likes 5 (some .int) ∈ gt := (gt_in (w := Cond.code yX5_likes cX5_likes 5 (some .int)) 916 rfl (by decide +kernel))
theorem dk_yX5_likes : dOK yX5_likes 1 := ⟨by decide, by decide, by decide +kernel⟩
theorem mv_L_96 : MV RL 96 yX5_likes cX5_likes 5 (some .int) 1 5 := ⟨(gt_in (w := Cond.methodLink RL 96 yX5_likes) 913 (by decide +kernel) (by decide +kernel)), (gt_in (w := Cond.instanceMethod yX5_likes) 914 (by decide +kernel) (by decide +kernel)), (gt_in (w := Cond.selects yX5_likes.cls yX5_likes yX5_likes) 915 (by decide +kernel) (by decide +kernel)), ini_RX5, cw_yX5_likes, dk_yX5_likes, by decide, TX5, 28, rfl⟩
set_option maxRecDepth 100000 in
theorem cw_yX4_whose : Cond.code yX4_whose cX4_whose 4 (some .int) ∈ gt := (gt_in (w := Cond.code yX4_whose cX4_whose 4 (some .int)) 579 rfl (by decide +kernel))
theorem dk_yX4_whose : dOK yX4_whose 1 := ⟨by decide, by decide, by decide +kernel⟩
theorem mv_L_97 : MV RL 97 yX4_whose cX4_whose 4 (some .int) 1 4 := ⟨(gt_in (w := Cond.methodLink RL 97 yX4_whose) 576 (by decide +kernel) (by decide +kernel)), (gt_in (w := Cond.instanceMethod yX4_whose) 577 (by decide +kernel) (by decide +kernel)), (gt_in (w := Cond.selects yX4_whose.cls yX4_whose yX4_whose) 578 (by decide +kernel) (by decide +kernel)), ini_RX4, cw_yX4_whose, dk_yX4_whose, by decide, TX4, 12, rfl⟩
set_option maxRecDepth 100000 in
theorem cw_yX5_whose : Cond.code yX5_whose cX5_whose 5 (some .int) ∈ gt := (gt_in (w := Cond.code yX5_whose cX5_whose 5 (some .int)) 920 rfl (by decide +kernel))
theorem dk_yX5_whose : dOK yX5_whose 1 := ⟨by decide, by decide, by decide +kernel⟩
theorem mv_L_100 : MV RL 100 yX5_whose cX5_whose 5 (some .int) 1 5 := ⟨(gt_in (w := Cond.methodLink RL 100 yX5_whose) 917 (by decide +kernel) (by decide +kernel)), (gt_in (w := Cond.instanceMethod yX5_whose) 918 (by decide +kernel) (by decide +kernel)), (gt_in (w := Cond.selects yX5_whose.cls yX5_whose yX5_whose) 919 (by decide +kernel) (by decide +kernel)), ini_RX5, cw_yX5_whose, dk_yX5_whose, by decide, TX5, 28, rfl⟩
set_option maxRecDepth 100000 in
theorem cw_yX4_share : Cond.code yX4_share cX4_share 5 (some .int) ∈ gt := (gt_in (w := Cond.code yX4_share cX4_share 5 (some .int)) 583 rfl (by decide +kernel))
theorem dk_yX4_share : dOK yX4_share 0 := ⟨by decide, by decide, by decide +kernel⟩
theorem mv_L_101 : MV RL 101 yX4_share cX4_share 5 (some .int) 0 4 := ⟨(gt_in (w := Cond.methodLink RL 101 yX4_share) 580 (by decide +kernel) (by decide +kernel)), (gt_in (w := Cond.instanceMethod yX4_share) 581 (by decide +kernel) (by decide +kernel)), (gt_in (w := Cond.selects yX4_share.cls yX4_share yX4_share) 582 (by decide +kernel) (by decide +kernel)), ini_RX4, cw_yX4_share, dk_yX4_share, by decide, TX4, 12, rfl⟩
set_option maxRecDepth 100000 in
theorem cw_yX5_share : Cond.code yX5_share cX5_share 1 (some .int) ∈ gt := (gt_in (w := Cond.code yX5_share cX5_share 1 (some .int)) 924 rfl (by decide +kernel))
theorem dk_yX5_share : dOK yX5_share 0 := ⟨by decide, by decide, by decide +kernel⟩
theorem mv_L_104 : MV RL 104 yX5_share cX5_share 1 (some .int) 0 5 := ⟨(gt_in (w := Cond.methodLink RL 104 yX5_share) 921 (by decide +kernel) (by decide +kernel)), (gt_in (w := Cond.instanceMethod yX5_share) 922 (by decide +kernel) (by decide +kernel)), (gt_in (w := Cond.selects yX5_share.cls yX5_share yX5_share) 923 (by decide +kernel) (by decide +kernel)), ini_RX5, cw_yX5_share, dk_yX5_share, by decide, TX5, 28, rfl⟩
set_option maxRecDepth 100000 in
theorem cw_yX4_bottles : Cond.code yX4_bottles cX4_bottles 4 (some .int) ∈ gt := (gt_in (w := Cond.code yX4_bottles cX4_bottles 4 (some .int)) 598 rfl (by decide +kernel))
theorem dk_yX4_bottles : dOK yX4_bottles 1 := ⟨by decide, by decide, by decide +kernel⟩
theorem mv_L_105 : MV RL 105 yX4_bottles cX4_bottles 4 (some .int) 1 4 := ⟨(gt_in (w := Cond.methodLink RL 105 yX4_bottles) 595 (by decide +kernel) (by decide +kernel)), (gt_in (w := Cond.instanceMethod yX4_bottles) 596 (by decide +kernel) (by decide +kernel)), (gt_in (w := Cond.selects yX4_bottles.cls yX4_bottles yX4_bottles) 597 (by decide +kernel) (by decide +kernel)), ini_RX4, cw_yX4_bottles, dk_yX4_bottles, by decide, TX4, 12, rfl⟩
set_option maxRecDepth 100000 in
theorem cw_yX5_bottles : Cond.code yX5_bottles cX5_bottles 2 (some .int) ∈ gt := (gt_in (w := Cond.code yX5_bottles cX5_bottles 2 (some .int)) 932 rfl (by decide +kernel))
theorem dk_yX5_bottles : dOK yX5_bottles 1 := ⟨by decide, by decide, by decide +kernel⟩
theorem mv_L_108 : MV RL 108 yX5_bottles cX5_bottles 2 (some .int) 1 5 := ⟨(gt_in (w := Cond.methodLink RL 108 yX5_bottles) 929 (by decide +kernel) (by decide +kernel)), (gt_in (w := Cond.instanceMethod yX5_bottles) 930 (by decide +kernel) (by decide +kernel)), (gt_in (w := Cond.selects yX5_bottles.cls yX5_bottles yX5_bottles) 931 (by decide +kernel) (by decide +kernel)), ini_RX5, cw_yX5_bottles, dk_yX5_bottles, by decide, TX5, 28, rfl⟩
set_option maxRecDepth 100000 in
theorem cw_yX4_row : Cond.code yX4_row cX4_row 3 (some .int) ∈ gt := (gt_in (w := Cond.code yX4_row cX4_row 3 (some .int)) 606 rfl (by decide +kernel))
theorem dk_yX4_row : dOK yX4_row 1 := ⟨by decide, by decide, by decide +kernel⟩
theorem mv_L_109 : MV RL 109 yX4_row cX4_row 3 (some .int) 1 4 := ⟨(gt_in (w := Cond.methodLink RL 109 yX4_row) 603 (by decide +kernel) (by decide +kernel)), (gt_in (w := Cond.instanceMethod yX4_row) 604 (by decide +kernel) (by decide +kernel)), (gt_in (w := Cond.selects yX4_row.cls yX4_row yX4_row) 605 (by decide +kernel) (by decide +kernel)), ini_RX4, cw_yX4_row, dk_yX4_row, by decide, TX4, 12, rfl⟩
set_option maxRecDepth 100000 in
theorem cw_yX5_row : Cond.code yX5_row cX5_row 2 (some .int) ∈ gt := (gt_in (w := Cond.code yX5_row cX5_row 2 (some .int)) 940 rfl (by decide +kernel))
theorem dk_yX5_row : dOK yX5_row 1 := ⟨by decide, by decide, by decide +kernel⟩
theorem mv_L_112 : MV RL 112 yX5_row cX5_row 2 (some .int) 1 5 := ⟨(gt_in (w := Cond.methodLink RL 112 yX5_row) 937 (by decide +kernel) (by decide +kernel)), (gt_in (w := Cond.instanceMethod yX5_row) 938 (by decide +kernel) (by decide +kernel)), (gt_in (w := Cond.selects yX5_row.cls yX5_row yX5_row) 939 (by decide +kernel) (by decide +kernel)), ini_RX5, cw_yX5_row, dk_yX5_row, by decide, TX5, 28, rfl⟩
set_option maxRecDepth 100000 in
theorem cw_yX4_fits : Cond.code yX4_fits cX4_fits 3 (some .int) ∈ gt := (gt_in (w := Cond.code yX4_fits cX4_fits 3 (some .int)) 610 rfl (by decide +kernel))
theorem dk_yX4_fits : dOK yX4_fits 0 := ⟨by decide, by decide, by decide +kernel⟩
theorem mv_L_113 : MV RL 113 yX4_fits cX4_fits 3 (some .int) 0 4 := ⟨(gt_in (w := Cond.methodLink RL 113 yX4_fits) 607 (by decide +kernel) (by decide +kernel)), (gt_in (w := Cond.instanceMethod yX4_fits) 608 (by decide +kernel) (by decide +kernel)), (gt_in (w := Cond.selects yX4_fits.cls yX4_fits yX4_fits) 609 (by decide +kernel) (by decide +kernel)), ini_RX4, cw_yX4_fits, dk_yX4_fits, by decide, TX4, 12, rfl⟩
set_option maxRecDepth 100000 in
theorem cw_yX5_fits : Cond.code yX5_fits cX5_fits 5 (some .int) ∈ gt := (gt_in (w := Cond.code yX5_fits cX5_fits 5 (some .int)) 944 rfl (by decide +kernel))
theorem dk_yX5_fits : dOK yX5_fits 0 := ⟨by decide, by decide, by decide +kernel⟩
theorem mv_L_116 : MV RL 116 yX5_fits cX5_fits 5 (some .int) 0 5 := ⟨(gt_in (w := Cond.methodLink RL 116 yX5_fits) 941 (by decide +kernel) (by decide +kernel)), (gt_in (w := Cond.instanceMethod yX5_fits) 942 (by decide +kernel) (by decide +kernel)), (gt_in (w := Cond.selects yX5_fits.cls yX5_fits yX5_fits) 943 (by decide +kernel) (by decide +kernel)), ini_RX5, cw_yX5_fits, dk_yX5_fits, by decide, TX5, 28, rfl⟩
set_option maxRecDepth 100000 in
theorem cw_yX4_judge : Cond.code yX4_judge cX4_judge 2 (some .int) ∈ gt := (gt_in (w := Cond.code yX4_judge cX4_judge 2 (some .int)) 618 rfl (by decide +kernel))
theorem dk_yX4_judge : dOK yX4_judge 0 := ⟨by decide, by decide, by decide +kernel⟩
theorem mv_L_117 : MV RL 117 yX4_judge cX4_judge 2 (some .int) 0 4 := ⟨(gt_in (w := Cond.methodLink RL 117 yX4_judge) 615 (by decide +kernel) (by decide +kernel)), (gt_in (w := Cond.instanceMethod yX4_judge) 616 (by decide +kernel) (by decide +kernel)), (gt_in (w := Cond.selects yX4_judge.cls yX4_judge yX4_judge) 617 (by decide +kernel) (by decide +kernel)), ini_RX4, cw_yX4_judge, dk_yX4_judge, by decide, TX4, 12, rfl⟩
set_option maxRecDepth 100000 in
theorem cw_yX5_judge : Cond.code yX5_judge cX5_judge 3 (some .int) ∈ gt := (gt_in (w := Cond.code yX5_judge cX5_judge 3 (some .int)) 948 rfl (by decide +kernel))
theorem dk_yX5_judge : dOK yX5_judge 0 := ⟨by decide, by decide, by decide +kernel⟩
theorem mv_L_120 : MV RL 120 yX5_judge cX5_judge 3 (some .int) 0 5 := ⟨(gt_in (w := Cond.methodLink RL 120 yX5_judge) 945 (by decide +kernel) (by decide +kernel)), (gt_in (w := Cond.instanceMethod yX5_judge) 946 (by decide +kernel) (by decide +kernel)), (gt_in (w := Cond.selects yX5_judge.cls yX5_judge yX5_judge) 947 (by decide +kernel) (by decide +kernel)), ini_RX5, cw_yX5_judge, dk_yX5_judge, by decide, TX5, 28, rfl⟩
set_option maxRecDepth 100000 in
theorem cw_yX4_lots : Cond.code yX4_lots cX4_lots 9 (some .int) ∈ gt := (gt_in (w := Cond.code yX4_lots cX4_lots 9 (some .int)) 626 rfl (by decide +kernel))
theorem dk_yX4_lots : dOK yX4_lots 2 := ⟨by decide, by decide, by decide +kernel⟩
theorem mv_L_121 : MV RL 121 yX4_lots cX4_lots 9 (some .int) 2 4 := ⟨(gt_in (w := Cond.methodLink RL 121 yX4_lots) 623 (by decide +kernel) (by decide +kernel)), (gt_in (w := Cond.instanceMethod yX4_lots) 624 (by decide +kernel) (by decide +kernel)), (gt_in (w := Cond.selects yX4_lots.cls yX4_lots yX4_lots) 625 (by decide +kernel) (by decide +kernel)), ini_RX4, cw_yX4_lots, dk_yX4_lots, by decide, TX4, 12, rfl⟩
set_option maxRecDepth 100000 in
theorem cw_yX5_lots : Cond.code yX5_lots cX5_lots 8 (some .int) ∈ gt := (gt_in (w := Cond.code yX5_lots cX5_lots 8 (some .int)) 952 rfl (by decide +kernel))
theorem dk_yX5_lots : dOK yX5_lots 2 := ⟨by decide, by decide, by decide +kernel⟩
theorem mv_L_124 : MV RL 124 yX5_lots cX5_lots 8 (some .int) 2 5 := ⟨(gt_in (w := Cond.methodLink RL 124 yX5_lots) 949 (by decide +kernel) (by decide +kernel)), (gt_in (w := Cond.instanceMethod yX5_lots) 950 (by decide +kernel) (by decide +kernel)), (gt_in (w := Cond.selects yX5_lots.cls yX5_lots yX5_lots) 951 (by decide +kernel) (by decide +kernel)), ini_RX5, cw_yX5_lots, dk_yX5_lots, by decide, TX5, 28, rfl⟩
set_option maxRecDepth 100000 in
theorem cw_yX4_image : Cond.code yX4_image cX4_image 1 (some .int) ∈ gt := (gt_in (w := Cond.code yX4_image cX4_image 1 (some .int)) 636 rfl (by decide +kernel))
theorem dk_yX4_image : dOK yX4_image 0 := ⟨by decide, by decide, by decide +kernel⟩
theorem mv_L_125 : MV RL 125 yX4_image cX4_image 1 (some .int) 0 4 := ⟨(gt_in (w := Cond.methodLink RL 125 yX4_image) 633 (by decide +kernel) (by decide +kernel)), (gt_in (w := Cond.instanceMethod yX4_image) 634 (by decide +kernel) (by decide +kernel)), (gt_in (w := Cond.selects yX4_image.cls yX4_image yX4_image) 635 (by decide +kernel) (by decide +kernel)), ini_RX4, cw_yX4_image, dk_yX4_image, by decide, TX4, 12, rfl⟩
set_option maxRecDepth 100000 in
theorem cw_yX5_image : Cond.code yX5_image cX5_image 1 (some .int) ∈ gt := (gt_in (w := Cond.code yX5_image cX5_image 1 (some .int)) 743 rfl (by decide +kernel))
theorem dk_yX5_image : dOK yX5_image 0 := ⟨by decide, by decide, by decide +kernel⟩
theorem mv_L_128 : MV RL 128 yX5_image cX5_image 1 (some .int) 0 5 := ⟨(gt_in (w := Cond.methodLink RL 128 yX5_image) 740 (by decide +kernel) (by decide +kernel)), (gt_in (w := Cond.instanceMethod yX5_image) 741 (by decide +kernel) (by decide +kernel)), (gt_in (w := Cond.selects yX5_image.cls yX5_image yX5_image) 742 (by decide +kernel) (by decide +kernel)), ini_RX5, cw_yX5_image, dk_yX5_image, by decide, TX5, 28, rfl⟩
set_option maxRecDepth 100000 in
theorem cw_yX4_on : Cond.code yX4_on cX4_on 1 (some .int) ∈ gt := (gt_in (w := Cond.code yX4_on cX4_on 1 (some .int)) 640 rfl (by decide +kernel))
theorem dk_yX4_on : dOK yX4_on 0 := ⟨by decide, by decide, by decide +kernel⟩
theorem mv_L_129 : MV RL 129 yX4_on cX4_on 1 (some .int) 0 4 := ⟨(gt_in (w := Cond.methodLink RL 129 yX4_on) 637 (by decide +kernel) (by decide +kernel)), (gt_in (w := Cond.instanceMethod yX4_on) 638 (by decide +kernel) (by decide +kernel)), (gt_in (w := Cond.selects yX4_on.cls yX4_on yX4_on) 639 (by decide +kernel) (by decide +kernel)), ini_RX4, cw_yX4_on, dk_yX4_on, by decide, TX4, 12, rfl⟩
set_option maxRecDepth 100000 in
theorem cw_yX5_on : Cond.code yX5_on cX5_on 1 (some .int) ∈ gt := (gt_in (w := Cond.code yX5_on cX5_on 1 (some .int)) 750 rfl (by decide +kernel))
theorem dk_yX5_on : dOK yX5_on 0 := ⟨by decide, by decide, by decide +kernel⟩
theorem mv_L_132 : MV RL 132 yX5_on cX5_on 1 (some .int) 0 5 := ⟨(gt_in (w := Cond.methodLink RL 132 yX5_on) 747 (by decide +kernel) (by decide +kernel)), (gt_in (w := Cond.instanceMethod yX5_on) 748 (by decide +kernel) (by decide +kernel)), (gt_in (w := Cond.selects yX5_on.cls yX5_on yX5_on) 749 (by decide +kernel) (by decide +kernel)), ini_RX5, cw_yX5_on, dk_yX5_on, by decide, TX5, 28, rfl⟩
set_option maxRecDepth 100000 in
theorem cw_yX4_count : Cond.code yX4_count cX4_count 2 (some .int) ∈ gt := (gt_in (w := Cond.code yX4_count cX4_count 2 (some .int)) 644 rfl (by decide +kernel))
theorem dk_yX4_count : dOK yX4_count 1 := ⟨by decide, by decide, by decide +kernel⟩
theorem mv_L_133 : MV RL 133 yX4_count cX4_count 2 (some .int) 1 4 := ⟨(gt_in (w := Cond.methodLink RL 133 yX4_count) 641 (by decide +kernel) (by decide +kernel)), (gt_in (w := Cond.instanceMethod yX4_count) 642 (by decide +kernel) (by decide +kernel)), (gt_in (w := Cond.selects yX4_count.cls yX4_count yX4_count) 643 (by decide +kernel) (by decide +kernel)), ini_RX4, cw_yX4_count, dk_yX4_count, by decide, TX4, 12, rfl⟩
set_option maxRecDepth 100000 in
theorem cw_yX5_count : Cond.code yX5_count cX5_count 4 (some .int) ∈ gt := (gt_in (w := Cond.code yX5_count cX5_count 4 (some .int)) 959 rfl (by decide +kernel))
theorem dk_yX5_count : dOK yX5_count 1 := ⟨by decide, by decide, by decide +kernel⟩
theorem mv_L_136 : MV RL 136 yX5_count cX5_count 4 (some .int) 1 5 := ⟨(gt_in (w := Cond.methodLink RL 136 yX5_count) 956 (by decide +kernel) (by decide +kernel)), (gt_in (w := Cond.instanceMethod yX5_count) 957 (by decide +kernel) (by decide +kernel)), (gt_in (w := Cond.selects yX5_count.cls yX5_count yX5_count) 958 (by decide +kernel) (by decide +kernel)), ini_RX5, cw_yX5_count, dk_yX5_count, by decide, TX5, 28, rfl⟩
end
section
/-- the index i of a row of n stands for the place j -/
def ix (i : Int32) (n j : Nat) : Prop := ¬ i < 0 ∧ i.toNatClampNeg = j ∧ j < n
theorem ix.vp {i : Int32} {n j : Nat} (h : ix i n j) : vp_in i n := fun q => q.elim h.1 (fun q => Nat.not_le.mpr h.2.2 (h.2.1 ▸ q))
theorem nj_nat {n : Nat} (h : n < 2 ^ 31) : (nI n).toNatClampNeg = n := by
  show (nI n).toInt.toNat = n
  rw [nI_toInt h]; rfl
theorem ix_n {n j : Nat} (h : j < n) (hn : n ≤ 1000000 := by decide) : ix (nI j) n j := by
  refine ⟨?_, nj_nat (by omega), h⟩
  rw [Int32.lt_iff_toInt_lt, nI_toInt (by omega), Int32.toInt_zero]; omega
theorem nj_lt {a b : Nat} (ha : a < 2 ^ 31) (hb : b < 2 ^ 31) : nI a < nI b ↔ a < b := by
  rw [Int32.lt_iff_toInt_lt, nI_toInt ha, nI_toInt hb]; omega
theorem nj_le {a b : Nat} (ha : a < 2 ^ 31) (hb : b < 2 ^ 31) : nI a ≤ nI b ↔ a ≤ b := by
  rw [Int32.le_iff_toInt_le, nI_toInt ha, nI_toInt hb]; omega
theorem nj_eq {a b : Nat} (ha : a < 2 ^ 31) (hb : b < 2 ^ 31) : nI a = nI b ↔ a = b := by
  rw [← Int32.toInt_inj, nI_toInt ha, nI_toInt hb]; omega
theorem nj_plus (a b : Nat) : nI a + nI b = nI (a + b) := (Int32.ofNat_add a b).symm
theorem nj_times (a b : Nat) : nI a * nI b = nI (a * b) := (Int32.ofNat_mul a b).symm
theorem nj_minus {a b : Nat} (h : b ≤ a) : nI a - nI b = nI (a - b) := by
  have h1 : nI (a - b) + nI b = nI a := by rw [nj_plus]; congr 1; omega
  rw [← h1]; exact Int32.add_sub_cancel ..
theorem nj_inc (a : Nat) : nI a + Int32.ofInt 1 = nI (a + 1) := nj_plus a 1
theorem nj_inc3 (a : Nat) : nI a + Int32.ofInt 3 = nI (a + 3) := nj_plus a 3
theorem nj_dec {a : Nat} (h : 0 < a) : nI a + Int32.ofInt (-1) = nI (a - 1) := by
  have h1 : nI a = nI (a - 1) + nI 1 := by rw [nj_plus]; congr 1; omega
  rw [h1, Int32.add_assoc, show nI 1 + Int32.ofInt (-1) = 0 by decide, Int32.add_zero]
theorem nj_decr (x : Int32) : x + Int32.ofInt (-1) = x - 1 := by rw [Int32.sub_eq_add_neg]; rfl
/-- an int between 0 and a number is that of a natural number -/
theorem nj_of {x : Int32} {n : Nat} (h0 : ¬ x < 0) (h : ¬ nI n < x) (hn : n < 2 ^ 31 := by decide) : ∃ k : Nat, k ≤ n ∧ x = nI k := by
  rw [Int32.lt_iff_toInt_lt, Int32.toInt_zero] at h0
  rw [Int32.lt_iff_toInt_lt, nI_toInt hn] at h
  refine ⟨x.toInt.toNat, by omega, ?_⟩
  rw [← Int32.toInt_inj, nI_toInt (by omega)]; omega
section GR
variable {l : Launch} {w : WD} {K : KT} {cc : ByteArray} {own : String} {nl d mc ms pc : Nat} {lv : List (Nat × Value)} {st : List Value} {σ : SG}
theorem g_lvp {lv' : List (Nat × Value)} (ks : List Nat) (h : lv_pick lv ks = lv') (k : G l w K pc lv' st σ) : G l w K pc lv st σ := by
  obtain ⟨⟨p, e, R, s, m, args, below, meth, c⟩, ⟨nL, cells, slots⟩, Q, A⟩ := K
  intro H ls locs hl hP hS
  exact k H ls locs (lv_sub hl ks h) hP hS
theorem g_top {x : Int32} (k : ∀ y : Int32, y = x → G l w K pc lv (.int y :: st) σ) : G l w K pc lv (.int x :: st) σ := k x rfl
theorem g_topl {x : Int64} (k : ∀ y : Int64, y = x → G l w K pc lv (.long y :: st) σ) : G l w K pc lv (.long x :: st) σ := k x rfl
theorem g_nat {t : Nat} (k : ∀ m : Nat, m = t → G l w K pc lv (.int (nI m) :: st) σ) : G l w K pc lv (.int (nI t) :: st) σ := k t rfl
theorem g_val {x y : Int32} (h : x = y) (k : G l w K pc lv (.int y :: st) σ) : G l w K pc lv (.int x :: st) σ := h ▸ k
theorem g_sg (k : ∀ τ : SG, τ = σ → G l w K pc lv st τ) : G l w K pc lv st σ := k σ rfl
theorem g_iaddv {x y v : Int32} (C : OK l w K cc nl own d mc ms) (hv : x + y = v) (hd : decode cc pc = .ok (.iadd, 1)) (k : G l w K (pc + 1) lv (.int v :: st) σ) : G l w K pc lv (.int y :: .int x :: st) σ := g_iadd C hd (hv ▸ k)
theorem g_isubv {x y v : Int32} (C : OK l w K cc nl own d mc ms) (hv : x - y = v) (hd : decode cc pc = .ok (.isub, 1)) (k : G l w K (pc + 1) lv (.int v :: st) σ) : G l w K pc lv (.int y :: .int x :: st) σ := g_isub C hd (hv ▸ k)
theorem g_imulv {x y v : Int32} (C : OK l w K cc nl own d mc ms) (hv : x * y = v) (hd : decode cc pc = .ok (.imul, 1)) (k : G l w K (pc + 1) lv (.int v :: st) σ) : G l w K pc lv (.int y :: .int x :: st) σ := g_imul C hd (hv ▸ k)
theorem g_idivv {x y v : Int32} (C : OK l w K cc nl own d mc ms) (hne : ¬ y = 0) (hv : x / y = v) (hd : decode cc pc = .ok (.idiv, 1)) (k : G l w K (pc + 1) lv (.int v :: st) σ) : G l w K pc lv (.int y :: .int x :: st) σ := g_idiv C hd hne (hv ▸ k)
theorem g_iremv {x y v : Int32} (C : OK l w K cc nl own d mc ms) (hne : ¬ y = 0) (hv : x - x / y * y = v) (hd : decode cc pc = .ok (.irem, 1)) (k : G l w K (pc + 1) lv (.int v :: st) σ) : G l w K pc lv (.int y :: .int x :: st) σ := g_irem C hd hne (hv ▸ k)
theorem g_ial {k0 n j : Nat} {i : Int32} (C : OK l w K cc nl own d mc ms) (hk : k0 < wN w) (he : shp w k0 = aI w n) (hin : ix i n j) (hd : decode cc pc = .ok (.iaload, 1)) (k : G l w K (pc + 1) lv (.int (σ k0 j) :: st) σ) : G l w K pc lv (.int i :: .ref (wA w k0) :: st) σ := g_iald C hk he hin.vp hd (by rw [hin.2.1]; exact k)
theorem g_ias {k0 n j : Nat} {i x : Int32} (C : OK l w K cc nl own d mc ms) (hk : k0 < wN w) (he : shp w k0 = aI w n) (hin : ix i n j) (hd : decode cc pc = .ok (.iastore, 1)) (k : ∀ τ : SG, τ = up σ k0 j x → G l w K (pc + 1) lv st τ) : G l w K pc lv (.int x :: .int i :: .ref (wA w k0) :: st) σ := g_iast C hk he hin.vp hd (by rw [hin.2.1]; exact k _ rfl)
theorem g_cal {k0 n j : Nat} {i : Int32} (C : OK l w K cc nl own d mc ms) (hk : k0 < wN w) (he : shp w k0 = aC w n) (hin : ix i n j) (hd : decode cc pc = .ok (.caload, 1)) (k : G l w K (pc + 1) lv (.int (σ k0 j) :: st) σ) : G l w K pc lv (.int i :: .ref (wA w k0) :: st) σ := g_cald C hk he hin.vp hd (by rw [hin.2.1]; exact k)
theorem g_cas {k0 n j : Nat} {i x : Int32} (C : OK l w K cc nl own d mc ms) (hk : k0 < wN w) (he : shp w k0 = aC w n) (hin : ix i n j) (hx : vp_nar .char x = x) (hd : decode cc pc = .ok (.castore, 1)) (k : ∀ τ : SG, τ = up σ k0 j x → G l w K (pc + 1) lv st τ) : G l w K pc lv (.int x :: .int i :: .ref (wA w k0) :: st) σ := g_cast C hk he hin.vp hd (by rw [hin.2.1, hx]; exact k _ rfl)
theorem g_aal {k0 b j : Nat} {i : Int32} (C : OK l w K cc nl own d mc ms) (hk : k0 < wN w) (he : shp w k0 = fun _ => aO w b) (hin : ix i 4 j) (hd : decode cc pc = .ok (.aaload, 1)) (k : G l w K (pc + 1) lv (.ref (wA w (b + 5 + j)) :: st) σ) : G l w K pc lv (.int i :: .ref (wA w k0) :: st) σ := g_aald C hk he hin.vp hd (by rw [hin.2.1]; exact k)
theorem g_alM {i : Int32} {j : Nat} (C : OK l w K cc nl own d mc ms) (hin : ix i 6 j) (hd : decode cc pc = .ok (.iaload, 1)) (k : G l w K (pc + 1) lv (.int (mosF j) :: st) σ) : G l w K pc lv (.int i :: .ref w.2.2.2.2.1.1 :: st) σ := g_aldM C hin.vp hd (by rw [hin.2.1]; exact k)
theorem g_alT {i : Int32} {j : Nat} (C : OK l w K cc nl own d mc ms) (hin : ix i 4 j) (hd : decode cc pc = .ok (.iaload, 1)) (k : G l w K (pc + 1) lv (.int (thrF j) :: st) σ) : G l w K pc lv (.int i :: .ref w.2.2.2.2.1.2 :: st) σ := g_aldT C hin.vp hd (by rw [hin.2.1]; exact k)
theorem g_putn {idx ci j k0 : Nat} {fs : List Value} {x : Int32} {ty : FieldType} (C : OK l w K cc nl own d mc ms) (hF : FP own idx ci j ty) (hk : k0 < wN w) (he : shp w k0 (σ k0) = .inr (ci, fs)) (hset : shp w k0 (upd (σ k0) j x) = .inr (ci, fs.set j (.int x))) (hlen : j < fs.length) (hnr : narrow ty (.int x) = .int x) (hfit : fits ty (.int x) = true) (hd : decode cc pc = .ok (.putfield idx, 3)) (k : ∀ τ : SG, τ = up σ k0 j x → G l w K (pc + 3) lv st τ) : G l w K pc lv (.int x :: .ref (wA w k0) :: st) σ := g_put C hF hk he hset hlen hnr hfit hd (k _ rfl)

theorem g_pVI {y : MethodName} {bytes : ByteArray} {maxL n idx ci d' k0 : Nat} {ret : Option FieldType} {As rest stk fs : List Value} {v : Int32} (C : OK l w K cc nl own d mc ms) (hm : MV own idx y bytes maxL ret n ci) (ct : CtI l w y bytes maxL ret d' 0 0 (.ref (wA w k0) :: As) σ (fun r τ => r = v ∧ τ = σ)) (hk : k0 < wN w) (he : shp w k0 (σ k0) = .inr (ci, fs)) (hAs : As.length = n) (hd' : d' + 1 ≤ d) (hst : stk = As.reverse ++ .ref (wA w k0) :: rest) (hcat : (rest.map fun v => v.category).sum ≤ 8) (hd : decode cc pc = .ok (.invokevirtual idx, 3)) (k : G l w K (pc + 3) lv (.int v :: rest) σ) : G l w K pc lv stk σ := g_callVI C hm ct hk he hAs hd' hst hcat hd (fun r τ h => by obtain ⟨h1, h2⟩ := h; subst h1; subst h2; exact k)
theorem g_pSI {y : MethodName} {bytes : ByteArray} {maxL n idx d' : Nat} {ret : Option FieldType} {As rest stk : List Value} {v : Int32} (C : OK l w K cc nl own d mc ms) (hm : MS own idx y bytes maxL ret n) (ct : CtI l w y bytes maxL ret d' 0 0 As σ (fun r τ => r = v ∧ τ = σ)) (hAs : As.length = n) (hd' : d' + 1 ≤ d) (hst : stk = As.reverse ++ rest) (hcat : (rest.map fun v => v.category).sum ≤ 8) (hd : decode cc pc = .ok (.invokestatic idx, 3)) (k : G l w K (pc + 3) lv (.int v :: rest) σ) : G l w K pc lv stk σ := g_callSI C hm ct hAs hd' hst hcat hd (fun r τ h => by obtain ⟨h1, h2⟩ := h; subst h1; subst h2; exact k)
theorem g_pNI {y : MethodName} {bytes : ByteArray} {maxL n idx d' : Nat} {host : String} {ret : Option FieldType} {As rest stk : List Value} {v : Int32} (C : OK l w K cc nl own d mc ms) (hm : MN y bytes maxL ret n) (hnest : ∀ (U : State) (A : Nat → Prop), ST w A U U.heap → va_Nw (.methodLinkNest own idx y host) U) (ct : CtI l w y bytes maxL ret d' 0 0 As σ (fun r τ => r = v ∧ τ = σ)) (hAs : As.length = n) (hd' : d' + 1 ≤ d) (hst : stk = As.reverse ++ rest) (hcat : (rest.map fun v => v.category).sum ≤ 8) (hd : decode cc pc = .ok (.invokestatic idx, 3)) (k : G l w K (pc + 3) lv (.int v :: rest) σ) : G l w K pc lv stk σ := g_callNI C hm hnest ct hAs hd' hst hcat hd (fun r τ h => by obtain ⟨h1, h2⟩ := h; subst h1; subst h2; exact k)
end GR
theorem nest1 {w : WD} (U : State) (A : Nat → Prop) (h : ST w A U U.heap) : va_Nw (.methodLinkNest RX1 42 yX4_within RX4) U := h.2.2.2.1
theorem nest2 {w : WD} (U : State) (A : Nat → Prop) (h : ST w A U U.heap) : va_Nw (.methodLinkNest RX1 46 yX4_isAge RX4) U := h.2.2.2.2.1
theorem upd_at (f : Nat → Int32) (k : Nat) (x : Int32) (j : Nat) : upd f k x j = if j = k then x else f j := rfl
theorem HB.ou {w : WD} {b : Nat} (h : HB b) (f : Nat → Int32) : shp w b f = .inr (1, [rA w (b + 1), rA w (b + 2), rA w (b + 3), rA w (b + 4), .int (f 4), .int (f 5), .int (f 6)]) := by rw [h.o]
theorem ic_m1 : Int32.ofInt (-1) = (-1) := by decide
theorem ic_0 : Int32.ofInt 0 = 0 := by decide
theorem ic_1 : Int32.ofInt 1 = 1 := by decide
theorem ic_2 : Int32.ofInt 2 = 2 := by decide
theorem ic_3 : Int32.ofInt 3 = 3 := by decide
theorem ic_4 : Int32.ofInt 4 = 4 := by decide
theorem ic_5 : Int32.ofInt 5 = 5 := by decide
theorem bp_m9 : (Int8.ofInt (-9)).toInt32 = (-9) := by decide +kernel
theorem bp_m6 : (Int8.ofInt (-6)).toInt32 = (-6) := by decide +kernel
theorem bp_m4 : (Int8.ofInt (-4)).toInt32 = (-4) := by decide +kernel
theorem bp_m3 : (Int8.ofInt (-3)).toInt32 = (-3) := by decide +kernel
theorem bp_m2 : (Int8.ofInt (-2)).toInt32 = (-2) := by decide +kernel
theorem bp_6 : (Int8.ofInt 6).toInt32 = 6 := by decide +kernel
theorem bp_7 : (Int8.ofInt 7).toInt32 = 7 := by decide +kernel
theorem bp_9 : (Int8.ofInt 9).toInt32 = 9 := by decide +kernel
theorem bp_10 : (Int8.ofInt 10).toInt32 = 10 := by decide +kernel
theorem bp_11 : (Int8.ofInt 11).toInt32 = 11 := by decide +kernel
theorem bp_14 : (Int8.ofInt 14).toInt32 = 14 := by decide +kernel
theorem bp_16 : (Int8.ofInt 16).toInt32 = 16 := by decide +kernel
theorem bp_18 : (Int8.ofInt 18).toInt32 = 18 := by decide +kernel
theorem bp_20 : (Int8.ofInt 20).toInt32 = 20 := by decide +kernel
theorem bp_28 : (Int8.ofInt 28).toInt32 = 28 := by decide +kernel
theorem bp_30 : (Int8.ofInt 30).toInt32 = 30 := by decide +kernel
theorem bp_31 : (Int8.ofInt 31).toInt32 = 31 := by decide +kernel
theorem bp_46 : (Int8.ofInt 46).toInt32 = 46 := by decide +kernel
theorem bp_48 : (Int8.ofInt 48).toInt32 = 48 := by decide +kernel
theorem bp_57 : (Int8.ofInt 57).toInt32 = 57 := by decide +kernel
theorem bp_59 : (Int8.ofInt 59).toInt32 = 59 := by decide +kernel
theorem bp_60 : (Int8.ofInt 60).toInt32 = 60 := by decide +kernel
theorem bp_63 : (Int8.ofInt 63).toInt32 = 63 := by decide +kernel
theorem bp_64 : (Int8.ofInt 64).toInt32 = 64 := by decide +kernel
theorem bp_80 : (Int8.ofInt 80).toInt32 = 80 := by decide +kernel
theorem bp_81 : (Int8.ofInt 81).toInt32 = 81 := by decide +kernel
theorem bp_96 : (Int8.ofInt 96).toInt32 = 96 := by decide +kernel
theorem bp_97 : (Int8.ofInt 97).toInt32 = 97 := by decide +kernel
theorem bp_98 : (Int8.ofInt 98).toInt32 = 98 := by decide +kernel
theorem bp_99 : (Int8.ofInt 99).toInt32 = 99 := by decide +kernel
theorem bp_100 : (Int8.ofInt 100).toInt32 = 100 := by decide +kernel
theorem bp_101 : (Int8.ofInt 101).toInt32 = 101 := by decide +kernel
theorem bp_102 : (Int8.ofInt 102).toInt32 = 102 := by decide +kernel
theorem bp_104 : (Int8.ofInt 104).toInt32 = 104 := by decide +kernel
theorem bp_109 : (Int8.ofInt 109).toInt32 = 109 := by decide +kernel
theorem bp_110 : (Int8.ofInt 110).toInt32 = 110 := by decide +kernel
theorem bp_111 : (Int8.ofInt 111).toInt32 = 111 := by decide +kernel
theorem bp_112 : (Int8.ofInt 112).toInt32 = 112 := by decide +kernel
theorem bp_115 : (Int8.ofInt 115).toInt32 = 115 := by decide +kernel
theorem bp_116 : (Int8.ofInt 116).toInt32 = 116 := by decide +kernel
theorem bp_119 : (Int8.ofInt 119).toInt32 = 119 := by decide +kernel
theorem bp_120 : (Int8.ofInt 120).toInt32 = 120 := by decide +kernel
theorem sp_m2000 : (Int16.ofInt (-2000)).toInt32 = (-2000) := by decide +kernel
theorem sp_m1000 : (Int16.ofInt (-1000)).toInt32 = (-1000) := by decide +kernel
theorem sp_255 : (Int16.ofInt 255).toInt32 = 255 := by decide +kernel
theorem sp_256 : (Int16.ofInt 256).toInt32 = 256 := by decide +kernel
theorem sp_1000 : (Int16.ofInt 1000).toInt32 = 1000 := by decide +kernel
theorem sp_9999 : (Int16.ofInt 9999).toInt32 = 9999 := by decide +kernel
end
section
/-! ===== numbers of truth ===== -/
abbrev bI (p : Prop) [Decidable p] : Int32 := if p then 1 else 0
theorem bI_0 {p : Prop} [Decidable p] (h : bI p = 0) : ¬ p := fun q => by simp [bI, q] at h
theorem bI_1 {p : Prop} [Decidable p] (h : ¬ bI p = 0) : p := Decidable.byContradiction fun q => h (by simp [bI, q])
theorem bI_nr {p : Prop} [Decidable p] : narrow .boolean (.int (bI p)) = .int (bI p) := by
  by_cases h : p <;> simp [bI, h] <;> rfl
/-! ===== a household as a row of naturals: 0 EATERS, 1 DAY, 2 BUY, 3 YESTERDAY'S, 4 PRICE, 5 THROW, 6 LACK, 7 KIND, 10.. SLICES, 20.. OPEN, 30 + 4e.. KIND, HUNGER, BASE, CHANCE ===== -/
abbrev Row : Type := Nat → Nat
def ua (a : Row) (k v : Nat) : Row := fun j => if j = k then v else a j
theorem ua_at (a : Row) (k v j : Nat) : ua a k v j = if j = k then v else a j := rfl
def Hh (σ : SG) (b : Nat) (a : Row) : Prop := σ b 4 = nI (a 0) ∧ σ b 5 = nI (a 1) ∧ (∀ k, k < 6 → σ (b + 3) k = nI (a (2 + k))) ∧ (∀ k, k < 5 → σ (b + 1) k = nI (a (10 + k))) ∧ (∀ k, k < 7 → σ (b + 2) k = nI (a (20 + k))) ∧ ∀ e, e < 4 → ∀ k, k < 4 → σ (b + 5 + e) k = nI (a (30 + 4 * e + k))
theorem Hh.c {σ : SG} {b : Nat} {a : Row} (h : Hh σ b a) : σ b 4 = nI (a 0) := h.1
theorem Hh.d {σ : SG} {b : Nat} {a : Row} (h : Hh σ b a) : σ b 5 = nI (a 1) := h.2.1
theorem Hh.t {σ : SG} {b : Nat} {a : Row} (h : Hh σ b a) {k : Nat} (hk : k < 6) : σ (b + 3) k = nI (a (2 + k)) := h.2.2.1 k hk
theorem Hh.s {σ : SG} {b : Nat} {a : Row} (h : Hh σ b a) {k : Nat} (hk : k < 5) : σ (b + 1) k = nI (a (10 + k)) := h.2.2.2.1 k hk
theorem Hh.p {σ : SG} {b : Nat} {a : Row} (h : Hh σ b a) {k : Nat} (hk : k < 7) : σ (b + 2) k = nI (a (20 + k)) := h.2.2.2.2.1 k hk
theorem Hh.e {σ : SG} {b : Nat} {a : Row} (h : Hh σ b a) {e k : Nat} (he : e < 4) (hk : k < 4) : σ (b + 5 + e) k = nI (a (30 + 4 * e + k)) := h.2.2.2.2.2 e he k hk
/-- cells outside S stay -/
def Fr (S : Nat → Prop) (σ τ : SG) : Prop := ∀ k, ¬ S k → τ k = σ k
theorem Fr.rf {S : Nat → Prop} {σ : SG} : Fr S σ σ := fun _ _ => rfl
theorem Fr.tr {S S' : Nat → Prop} {σ τ ρ : SG} (h : Fr S σ τ) (h' : Fr S' τ ρ) (hs : ∀ k, S' k → S k) : Fr S σ ρ := fun k hk => (h' k (fun q => hk (hs k q))).trans (h k hk)
theorem Fr.up {S : Nat → Prop} {σ : SG} {k j : Nat} {v : Int32} (hk : S k) : Fr S σ (up σ k j v) := fun k' h => up_other (fun q => h (q ▸ hk))
theorem Fr.upc {S : Nat → Prop} {σ : SG} {k : Nat} {g : Nat → Int32} (hk : S k) : Fr S σ (upc σ k g) := fun k' h => upc_other (fun q => h (q ▸ hk))
theorem Fr.mono {S S' : Nat → Prop} {σ τ : SG} (h : Fr S σ τ) (hs : ∀ k, S k → S' k) : Fr S' σ τ := fun k hk => h k (fun q => hk (hs k q))
def inH (b : Nat) : Nat → Prop := fun k => b ≤ k ∧ k ≤ b + 8
theorem Hh.fr {σ τ : SG} {b : Nat} {a : Row} (h : Hh σ b a) (hf : ∀ k, b ≤ k → k ≤ b + 8 → τ k = σ k) : Hh τ b a :=
  ⟨by rw [hf b (by omega) (by omega)]; exact h.c, by rw [hf b (by omega) (by omega)]; exact h.d, fun k hk => by rw [hf _ (by omega) (by omega)]; exact h.t hk, fun k hk => by rw [hf _ (by omega) (by omega)]; exact h.s hk, fun k hk => by rw [hf _ (by omega) (by omega)]; exact h.p hk, fun e he k hk => by rw [hf _ (by omega) (by omega)]; exact h.e he hk⟩
theorem Hh.ext {σ : SG} {b : Nat} {a a' : Row} (h : Hh σ b a) (he : ∀ j, j < 46 → a' j = a j) : Hh σ b a' :=
  ⟨by rw [he 0 (by omega)]; exact h.c, by rw [he 1 (by omega)]; exact h.d, fun k hk => by rw [he _ (by omega)]; exact h.t hk, fun k hk => by rw [he _ (by omega)]; exact h.s hk, fun k hk => by rw [he _ (by omega)]; exact h.p hk, fun e he' k hk => by rw [he _ (by omega)]; exact h.e he' hk⟩
theorem Hh.us {σ : SG} {b : Nat} {a : Row} (h : Hh σ b a) {j v : Nat} (hj : j < 5) : Hh (up σ (b + 1) j (nI v)) b (ua a (10 + j) v) := by
  refine ⟨?_, ?_, fun k hk => ?_, fun k hk => ?_, fun k hk => ?_, fun e he k hk => ?_⟩ <;> simp only [up_at, ua_at]
  · rw [if_neg (by omega), if_neg (by omega)]; exact h.c
  · rw [if_neg (by omega), if_neg (by omega)]; exact h.d
  · rw [if_neg (by omega), if_neg (by omega)]; exact h.t hk
  · by_cases q : k = j
    · rw [if_pos ⟨trivial, q⟩, if_pos (by omega)]
    · rw [if_neg (fun z => q z.2), if_neg (by omega)]; exact h.s hk
  · rw [if_neg (by omega), if_neg (by omega)]; exact h.p hk
  · rw [if_neg (by omega), if_neg (by omega)]; exact h.e he hk
theorem Hh.ut {σ : SG} {b : Nat} {a : Row} (h : Hh σ b a) {j v : Nat} (hj : j < 6) : Hh (up σ (b + 3) j (nI v)) b (ua a (2 + j) v) := by
  refine ⟨?_, ?_, fun k hk => ?_, fun k hk => ?_, fun k hk => ?_, fun e he k hk => ?_⟩ <;> simp only [up_at, ua_at]
  · rw [if_neg (by omega), if_neg (by omega)]; exact h.c
  · rw [if_neg (by omega), if_neg (by omega)]; exact h.d
  · by_cases q : k = j
    · rw [if_pos ⟨trivial, q⟩, if_pos (by omega)]
    · rw [if_neg (fun z => q z.2), if_neg (by omega)]; exact h.t hk
  · rw [if_neg (by omega), if_neg (by omega)]; exact h.s hk
  · rw [if_neg (by omega), if_neg (by omega)]; exact h.p hk
  · rw [if_neg (by omega), if_neg (by omega)]; exact h.e he hk
theorem Hh.upp {σ : SG} {b : Nat} {a : Row} (h : Hh σ b a) {j v : Nat} (hj : j < 7) : Hh (up σ (b + 2) j (nI v)) b (ua a (20 + j) v) := by
  refine ⟨?_, ?_, fun k hk => ?_, fun k hk => ?_, fun k hk => ?_, fun e he k hk => ?_⟩ <;> simp only [up_at, ua_at]
  · rw [if_neg (by omega), if_neg (by omega)]; exact h.c
  · rw [if_neg (by omega), if_neg (by omega)]; exact h.d
  · rw [if_neg (by omega), if_neg (by omega)]; exact h.t hk
  · rw [if_neg (by omega), if_neg (by omega)]; exact h.s hk
  · by_cases q : k = j
    · rw [if_pos ⟨trivial, q⟩, if_pos (by omega)]
    · rw [if_neg (fun z => q z.2), if_neg (by omega)]; exact h.p hk
  · rw [if_neg (by omega), if_neg (by omega)]; exact h.e he hk
theorem Hh.ue {σ : SG} {b : Nat} {a : Row} (h : Hh σ b a) {e0 j v : Nat} (he0 : e0 < 4) (hj : j < 4) : Hh (up σ (b + 5 + e0) j (nI v)) b (ua a (30 + 4 * e0 + j) v) := by
  refine ⟨?_, ?_, fun k hk => ?_, fun k hk => ?_, fun k hk => ?_, fun e he k hk => ?_⟩ <;> simp only [up_at, ua_at]
  · rw [if_neg (by omega), if_neg (by omega)]; exact h.c
  · rw [if_neg (by omega), if_neg (by omega)]; exact h.d
  · rw [if_neg (by omega), if_neg (by omega)]; exact h.t hk
  · rw [if_neg (by omega), if_neg (by omega)]; exact h.s hk
  · rw [if_neg (by omega), if_neg (by omega)]; exact h.p hk
  · by_cases q : e = e0 ∧ k = j
    · rw [if_pos ⟨by omega, q.2⟩, if_pos (by omega)]
    · rw [if_neg (by omega), if_neg (by omega)]; exact h.e he hk
theorem Hh.uc {σ : SG} {b : Nat} {a : Row} (h : Hh σ b a) {v : Nat} : Hh (up σ b 4 (nI v)) b (ua a 0 v) := by
  refine ⟨?_, ?_, fun k hk => ?_, fun k hk => ?_, fun k hk => ?_, fun e he k hk => ?_⟩ <;> simp only [up_at, ua_at]
  · simp
  · rw [if_neg (by omega), if_neg (by omega)]; exact h.d
  · rw [if_neg (by omega), if_neg (by omega)]; exact h.t hk
  · rw [if_neg (by omega), if_neg (by omega)]; exact h.s hk
  · rw [if_neg (by omega), if_neg (by omega)]; exact h.p hk
  · rw [if_neg (by omega), if_neg (by omega)]; exact h.e he hk
theorem Hh.ud {σ : SG} {b : Nat} {a : Row} (h : Hh σ b a) {v : Nat} : Hh (up σ b 5 (nI v)) b (ua a 1 v) := by
  refine ⟨?_, ?_, fun k hk => ?_, fun k hk => ?_, fun k hk => ?_, fun e he k hk => ?_⟩ <;> simp only [up_at, ua_at]
  · rw [if_neg (by omega), if_neg (by omega)]; exact h.c
  · simp
  · rw [if_neg (by omega), if_neg (by omega)]; exact h.t hk
  · rw [if_neg (by omega), if_neg (by omega)]; exact h.s hk
  · rw [if_neg (by omega), if_neg (by omega)]; exact h.p hk
  · rw [if_neg (by omega), if_neg (by omega)]; exact h.e he hk
theorem Hh.uf {σ : SG} {b : Nat} {a : Row} (h : Hh σ b a) {v : Int32} : Hh (up σ b 6 v) b a := by
  refine ⟨?_, ?_, fun k hk => ?_, fun k hk => ?_, fun k hk => ?_, fun e he k hk => ?_⟩ <;> simp only [up_at]
  · rw [if_neg (by omega)]; exact h.c
  · rw [if_neg (by omega)]; exact h.d
  · rw [if_neg (by omega)]; exact h.t hk
  · rw [if_neg (by omega)]; exact h.s hk
  · rw [if_neg (by omega)]; exact h.p hk
  · rw [if_neg (by omega)]; exact h.e he hk
/-- the bounds of a household's numbers -/
def Bd (a : Row) : Prop := (∀ j, a j ≤ 30000) ∧ a 0 ≤ 4 ∧ a 1 ≤ 30000 ∧ a 2 ≤ 30 ∧ a 3 ≤ 9 ∧ a 4 ≤ 9 ∧ a 5 ≤ 9 ∧ a 6 ≤ 9 ∧ a 7 ≤ 5 ∧ (∀ k, k < 5 → a (10 + k) ≤ 60) ∧ (∀ k, k < 7 → a (20 + k) ≤ 1) ∧ ∀ e, e < 4 → a (30 + 4 * e) ≤ 5 ∧ a (30 + 4 * e + 1) ≤ 11 ∧ a (30 + 4 * e + 2) ≤ 9 ∧ a (30 + 4 * e + 3) ≤ 10
/-! ===== worth, and what is taken next ===== -/
abbrev eats (a : Row) (e g : Nat) : Prop := a (30 + 4 * e) = 0 ∨ a (30 + 4 * e) = 2 ∨ a (30 + 4 * e) = 4 ∨ g = 0 ∨ (g = 1 ∧ a (30 + 4 * e) ≠ 1)
def wNt (a : Row) (e g : Nat) : Nat :=
  if a (30 + 4 * e) = 0 then a (30 + 4 * e + 2) - g
  else if a (30 + 4 * e) = 2 then (if 2 < g then a (30 + 4 * e + 2) + 1 else a (30 + 4 * e + 2) - g)
  else if a (30 + 4 * e) = 4 then 1
  else if a (30 + 4 * e) = 5 ∧ 4 < a 1 % 7 then (if g = 0 then a (30 + 4 * e + 2) else a (30 + 4 * e + 2) / 2) - 1
  else (if g = 0 then a (30 + 4 * e + 2) else a (30 + 4 * e + 2) / 2)
def wJ (a : Row) (e g : Nat) : Int32 := if eats a e g then nI (wNt a e g) else -1
def sumN (f : Nat → Nat) : Nat → Nat
  | 0 => 0
  | n + 1 => sumN f n + f n
def inRj (a : Row) (g : Nat) : Int32 := if g = 0 ∧ (a 7 = 3 ∨ a 7 = 5) then nI (a (10 + g)) - 3 else nI (a (10 + g))
abbrev reachC (a : Row) (g : Nat) : Prop := if g = 0 ∧ (a 7 = 3 ∨ a 7 = 5) then 3 < a (10 + g) else 0 < a (10 + g)
def way (a : Row) : Nat := if a 7 = 4 then (if a 1 % 2 = 0 then 2 else 1) else a 7
/-- the AGES 4, 3 .. gone through, m of them -/
def pkC (a : Row) (e : Nat) : Nat → Option Nat
  | 0 => none
  | m + 1 => if reachC a (4 - m) ∧ eats a e (4 - m) then (match pkC a e m with
    | none => some (4 - m)
    | some f => if way a = 1 ∨ (way a = 2 ∧ wNt a e f < wNt a e (4 - m)) then some (4 - m) else some f) else pkC a e m
def nxC (a : Row) (e : Nat) : Option Nat := pkC a e 5
def oJ (o : Option Nat) (d : Int32) : Int32 := match o with
  | none => d
  | some g => nI g
/-- throwing k of the oldest: the AGES 4, 3 .., m of them gone through; the row, and how many are left to throw -/
def losS (a : Row) (k : Nat) : Nat → Row × Nat
  | 0 => (a, k)
  | m + 1 => (ua (losS a k m).1 (10 + (4 - m)) ((losS a k m).1 (10 + (4 - m)) - min (losS a k m).2 ((losS a k m).1 (10 + (4 - m)))), (losS a k m).2 - min (losS a k m).2 ((losS a k m).1 (10 + (4 - m))))
end
section
theorem nj_min {a b : Nat} (ha : a < 2 ^ 31) (hb : b < 2 ^ 31) : (if nI b < nI a then nI b else nI a) = nI (min a b) := by
  by_cases h : b < a
  · rw [if_pos ((nj_lt hb ha).mpr h), Nat.min_eq_right (Nat.le_of_lt h)]
  · rw [if_neg (fun q => h ((nj_lt hb ha).mp q)), Nat.min_eq_left (by omega)]
theorem nj_toInt {a : Nat} (h : a < 2 ^ 31) : (nI a).toInt = a := nI_toInt h
theorem nj_div {a b : Nat} (ha : a < 2 ^ 31) (hb : b < 2 ^ 31) : nI a / nI b = nI (a / b) := by
  have h1 : a / b ≤ a := Nat.div_le_self a b
  rw [← Int32.toInt_inj, Int32.toInt_div, nj_toInt ha, nj_toInt hb, nj_toInt (by omega)]
  rw [← Int.ofNat_tdiv]
  generalize a / b = q at h1 ⊢
  rw [Int.bmod_eq_of_le] <;> omega
theorem nj_div2 {a : Nat} (ha : a < 2 ^ 31) : nI a / 2 = nI (a / 2) := nj_div ha (by decide)
theorem nj_rem {a b : Nat} (ha : a < 2 ^ 31) (hb : b < 2 ^ 31) : nI a - nI a / nI b * nI b = nI (a % b) := by
  rw [nj_div ha hb, nj_times, nj_minus (Nat.div_mul_le_self a b)]
  congr 1
  have := Nat.div_add_mod a b
  rw [Nat.mul_comm] at this
  omega
theorem nj_pred {q : Nat} {x : Int32} (hx : x = nI q - 1) (h : ¬ x < 0) (hq : q < 2 ^ 31) : ∃ g, q = g + 1 ∧ x = nI g := by
  cases q with
  | zero => subst hx; exact absurd (by decide) h
  | succ g => exact ⟨g, rfl, by rw [hx]; exact nj_minus (a := g + 1) (b := 1) (by omega)⟩
theorem nj_pred0 {q : Nat} {x : Int32} (hx : x = nI q - 1) (h : x < 0) (hq : q < 2 ^ 31) : q = 0 := by
  cases q with
  | zero => rfl
  | succ g =>
    have h1 : x = nI g := by rw [hx]; exact nj_minus (a := g + 1) (b := 1) (by omega)
    rw [h1] at h
    have := (nj_lt (a := g) (b := 0) (by omega) (by omega)).mp h
    omega
theorem losS_step {a0 a : Row} {k t g : Nat} (hl : losS a0 k (5 - (g + 1)) = (a, t)) (hg : g < 5) : losS a0 k (5 - g) = (ua a (10 + g) (a (10 + g) - min t (a (10 + g))), t - min t (a (10 + g))) := by
  have e : 5 - g = (5 - (g + 1)) + 1 := by omega
  have e2 : 4 - (5 - (g + 1)) = g := by omega
  rw [e, losS, hl, e2]
end
section
set_option maxRecDepth 100000 in
set_option maxHeartbeats 4000000 in
theorem ct_X4_within (l : Launch) (w : WD) (hN : 54 ≤ wN w) (σ : SG) (v x y : Int32) : CtI l w yX4_within cX4_within 3 (some .boolean) 1 0 0 [.int v, .int x, .int y] σ (fun r τ => r = bI (x ≤ v ∧ v ≤ y) ∧ τ = σ) := by
  refine CtI.mk (by decide) (Nat.le_of_ble_eq_true rfl) ?_
  intro K C hr h0
  have r := RI.of hr h0
  clear hr h0
  show G l w K 0 [(0, .int v), (1, .int x), (2, .int y)] [] σ
  refine g_iload_n C dX4_within_0 rfl rfl ?_
  refine g_iload_n C dX4_within_1 rfl rfl ?_
  refine g_icmp_lt (tgt := 14) C dX4_within_2 rfl (fun c2_1 => ?_) (fun c2_1 => ?_)
  · skip
    refine g_iconst C dX4_within_14 ic_0 ?_
    refine g_iret C r rfl dX4_within_15 ?_
    refine ⟨?_, rfl⟩
    clear r C
    grind
  · skip
    refine g_iload_n C dX4_within_5 rfl rfl ?_
    refine g_iload_n C dX4_within_6 rfl rfl ?_
    refine g_icmp_gt (tgt := 14) C dX4_within_7 rfl (fun c7_2 => ?_) (fun c7_2 => ?_)
    · skip
      refine g_iconst C dX4_within_14 ic_0 ?_
      refine g_iret C r rfl dX4_within_15 ?_
      refine ⟨?_, rfl⟩
      clear r C
      grind
    · skip
      refine g_iconst C dX4_within_10 ic_1 ?_
      refine g_goto (tgt := 15) C dX4_within_11 rfl ?_
      refine g_iret C r rfl dX4_within_15 ?_
      refine ⟨?_, rfl⟩
      clear r C
      grind
set_option maxRecDepth 100000 in
set_option maxHeartbeats 4000000 in
theorem ct_X4_isAge (l : Launch) (w : WD) (hN : 54 ≤ wN w) (σ : SG) (v : Int32) : CtI l w yX4_isAge cX4_isAge 1 (some .boolean) 1 0 0 [.int v] σ (fun r τ => r = bI (0 ≤ v ∧ v < 5) ∧ τ = σ) := by
  refine CtI.mk (by decide) (Nat.le_of_ble_eq_true rfl) ?_
  intro K C hr h0
  have r := RI.of hr h0
  clear hr h0
  show G l w K 0 [(0, .int v)] [] σ
  refine g_iload_n C dX4_isAge_0 rfl rfl ?_
  refine g_if_lt (tgt := 13) C dX4_isAge_1 rfl (fun c1_1 => ?_) (fun c1_1 => ?_)
  · skip
    refine g_iconst C dX4_isAge_13 ic_0 ?_
    refine g_iret C r rfl dX4_isAge_14 ?_
    refine ⟨?_, rfl⟩
    clear r C
    grind
  · skip
    refine g_iload_n C dX4_isAge_4 rfl rfl ?_
    refine g_iconst C dX4_isAge_5 ic_5 ?_
    refine g_icmp_ge (tgt := 13) C dX4_isAge_6 rfl (fun c6_2 => ?_) (fun c6_2 => ?_)
    · skip
      refine g_iconst C dX4_isAge_13 ic_0 ?_
      refine g_iret C r rfl dX4_isAge_14 ?_
      refine ⟨?_, rfl⟩
      clear r C
      grind
    · skip
      refine g_iconst C dX4_isAge_9 ic_1 ?_
      refine g_goto (tgt := 14) C dX4_isAge_10 rfl ?_
      refine g_iret C r rfl dX4_isAge_14 ?_
      refine ⟨?_, rfl⟩
      clear r C
      grind
set_option maxRecDepth 100000 in
set_option maxHeartbeats 4000000 in
theorem ct_X4_outside (l : Launch) (w : WD) (hN : 54 ≤ wN w) (σ : SG) (v x y : Int32) : CtI l w yX4_outside cX4_outside 3 (some .int) 1 0 0 [.int v, .int x, .int y] σ (fun r τ => r = (if v < x then -4 else if y < v then -6 else 0) ∧ τ = σ) := by
  refine CtI.mk (by decide) (Nat.le_of_ble_eq_true rfl) ?_
  intro K C hr h0
  have r := RI.of hr h0
  clear hr h0
  show G l w K 0 [(0, .int v), (1, .int x), (2, .int y)] [] σ
  refine g_iload_n C dX4_outside_0 rfl rfl ?_
  refine g_iload_n C dX4_outside_1 rfl rfl ?_
  refine g_icmp_ge (tgt := 8) C dX4_outside_2 rfl (fun c2_1 => ?_) (fun c2_1 => ?_)
  · skip
    refine g_iload_n C dX4_outside_8 rfl rfl ?_
    refine g_iload_n C dX4_outside_9 rfl rfl ?_
    refine g_icmp_le (tgt := 18) C dX4_outside_10 rfl (fun c10_2 => ?_) (fun c10_2 => ?_)
    · skip
      refine g_iconst C dX4_outside_18 ic_0 ?_
      refine g_iret C r rfl dX4_outside_19 ?_
      refine ⟨?_, rfl⟩
      clear r C
      grind
    · skip
      refine g_bipush C dX4_outside_13 bp_m6 ?_
      refine g_goto (tgt := 19) C dX4_outside_15 rfl ?_
      refine g_iret C r rfl dX4_outside_19 ?_
      refine ⟨?_, rfl⟩
      clear r C
      grind
  · skip
    refine g_bipush C dX4_outside_5 bp_m4 ?_
    refine g_iret C r rfl dX4_outside_7 ?_
    refine ⟨?_, rfl⟩
    clear r C
    grind
set_option maxRecDepth 100000 in
set_option maxHeartbeats 4000000 in
theorem ct_X4_refuse (l : Launch) (w : WD) (hN : 54 ≤ wN w) (σ : SG) (k : Nat) (hk : 1 ≤ k ∧ k ≤ 6) (x : Int32) (hx : -x = nI k) : CtI l w yX4_refuse cX4_refuse 2 (some .int) 2 0 0 [.ref (wA w 0), .int x] σ (fun r τ => r = x ∧ τ = up σ 35 k (σ 35 k + 1)) := by
  refine CtI.mk (by decide) (Nat.le_of_ble_eq_true rfl) ?_
  intro K C hr h0
  have r := RI.of hr h0
  clear hr h0
  show G l w K 0 [(0, .ref (wA w 0)), (1, .int x)] [] σ
  refine g_iload_n C dX4_refuse_0 rfl rfl ?_
  refine g_ineg C dX4_refuse_1 ?_
  refine g_iconst C dX4_refuse_2 ic_1 ?_
  refine g_bipush C dX4_refuse_3 bp_6 ?_
  refine g_pSI (rest := []) (v := bI (1 ≤ -x ∧ -x ≤ 6)) C ms_X4_83 (ct_X4_within l w hN σ (-x) 1 6) rfl (by decide) rfl (Nat.le_of_ble_eq_true rfl) dX4_refuse_5 ?_
  refine g_if_eq (tgt := 22) C dX4_refuse_8 rfl (fun c8_1 => ?_) (fun c8_1 => ?_)
  · skip
    have n8_1 : ¬ (1 ≤ -x ∧ -x ≤ 6) := bI_0 c8_1
    exfalso
    rw [hx] at n8_1; exact n8_1 ⟨(nj_le (a := 1) (by omega) (by omega)).mpr hk.1, (nj_le (b := 6) (by omega) (by omega)).mpr hk.2⟩
  · skip
    have n8_1 : (1 ≤ -x ∧ -x ≤ 6) := bI_1 c8_1
    refine g_aload_n C dX4_refuse_11 rfl rfl ?_
    refine g_get (v := .ref (wA w 35)) C fl_X4_47 fs_X4_47 (Nat.lt_of_lt_of_le (by decide) hN) rfl rfl dX4_refuse_12 ?_
    refine g_iload_n C dX4_refuse_15 rfl rfl ?_
    refine g_ineg C dX4_refuse_16 ?_
    refine g_dup2 C dX4_refuse_17 rfl rfl ?_
    refine g_ial (k0 := 35) (n := 7) C (Nat.lt_of_lt_of_le (by decide) hN) rfl (j := k) (by rw [hx]; exact ix_n (by omega)) dX4_refuse_18 ?_
    refine g_iconst C dX4_refuse_19 ic_1 ?_
    refine g_iaddv (v := (σ 35 k) + 1) C rfl dX4_refuse_20 ?_
    refine g_ias (k0 := 35) (n := 7) C (Nat.lt_of_lt_of_le (by decide) hN) rfl (j := k) (by rw [hx]; exact ix_n (by omega)) dX4_refuse_21 (fun σ_2 hσ_2 => ?_)
    refine g_iload_n C dX4_refuse_22 rfl rfl ?_
    refine g_iret C r rfl dX4_refuse_23 ?_
    exact ⟨rfl, hσ_2⟩
set_option maxRecDepth 100000 in
set_option maxHeartbeats 4000000 in
theorem ct_X0_clear (l : Launch) (w : WD) (hN : 54 ≤ wN w) (σ : SG) : CtV l w yX0_clear cX0_clear 1 1 0 0 [.ref (wA w 31)] σ (fun τ => τ = up (up σ 31 0 (-9)) 31 1 0) := by
  refine CtV.mk (by decide) (Nat.le_of_ble_eq_true rfl) ?_
  intro K C hr h0
  have r := RV.of hr h0
  clear hr h0
  show G l w K 0 [(0, .ref (wA w 31))] [] σ
  refine g_aload_n C dX0_clear_0 rfl rfl ?_
  refine g_bipush C dX0_clear_1 bp_m9 ?_
  refine g_putn C fp_X0_9 (Nat.lt_of_lt_of_le (by decide) hN) rfl rfl (Nat.le_of_ble_eq_true rfl) rfl rfl dX0_clear_3 (fun σ_1 hσ_1 => ?_)
  refine g_aload_n C dX0_clear_6 rfl rfl ?_
  refine g_iconst C dX0_clear_7 ic_0 ?_
  refine g_putn C fp_X0_15 (Nat.lt_of_lt_of_le (by decide) hN) rfl rfl (Nat.le_of_ble_eq_true rfl) rfl rfl dX0_clear_8 (fun σ_2 hσ_2 => ?_)
  refine g_vret C r dX0_clear_11 ?_
  clear r C; subst_vars; rfl
set_option maxRecDepth 100000 in
set_option maxHeartbeats 4000000 in
theorem ct_X0_offer (l : Launch) (w : WD) (hN : 54 ≤ wN w) (σ : SG) (x v : Int32) : CtV l w yX0_offer cX0_offer 3 1 0 0 [.ref (wA w 31), .int x, .int v] σ (fun τ => τ = if σ 31 0 = -9 ∨ σ 31 1 < v then up (up σ 31 0 x) 31 1 v else σ) := by
  refine CtV.mk (by decide) (Nat.le_of_ble_eq_true rfl) ?_
  intro K C hr h0
  have r := RV.of hr h0
  clear hr h0
  show G l w K 0 [(0, .ref (wA w 31)), (1, .int x), (2, .int v)] [] σ
  refine g_aload_n C dX0_offer_0 rfl rfl ?_
  refine g_get (v := .int (σ 31 0)) C fl_X0_9 fs_X0_9 (Nat.lt_of_lt_of_le (by decide) hN) rfl rfl dX0_offer_1 ?_
  refine g_bipush C dX0_offer_4 bp_m9 ?_
  refine g_icmp_eq (tgt := 17) C dX0_offer_6 rfl (fun c6_1 => ?_) (fun c6_1 => ?_)
  · skip
    refine g_aload_n C dX0_offer_17 rfl rfl ?_
    refine g_iload_n C dX0_offer_18 rfl rfl ?_
    refine g_putn C fp_X0_9 (Nat.lt_of_lt_of_le (by decide) hN) rfl rfl (Nat.le_of_ble_eq_true rfl) rfl rfl dX0_offer_19 (fun σ_2 hσ_2 => ?_)
    refine g_aload_n C dX0_offer_22 rfl rfl ?_
    refine g_iload_n C dX0_offer_23 rfl rfl ?_
    refine g_putn C fp_X0_15 (Nat.lt_of_lt_of_le (by decide) hN) rfl rfl (Nat.le_of_ble_eq_true rfl) rfl rfl dX0_offer_24 (fun σ_3 hσ_3 => ?_)
    refine g_vret C r dX0_offer_27 ?_
    clear r C; subst_vars; grind
  · skip
    refine g_iload_n C dX0_offer_9 rfl rfl ?_
    refine g_aload_n C dX0_offer_10 rfl rfl ?_
    refine g_get (v := .int (σ 31 1)) C fl_X0_15 fs_X0_15 (Nat.lt_of_lt_of_le (by decide) hN) rfl rfl dX0_offer_11 ?_
    refine g_icmp_le (tgt := 27) C dX0_offer_14 rfl (fun c14_4 => ?_) (fun c14_4 => ?_)
    · skip
      refine g_vret C r dX0_offer_27 ?_
      clear r C; subst_vars; grind
    · skip
      refine g_aload_n C dX0_offer_17 rfl rfl ?_
      refine g_iload_n C dX0_offer_18 rfl rfl ?_
      refine g_putn C fp_X0_9 (Nat.lt_of_lt_of_le (by decide) hN) rfl rfl (Nat.le_of_ble_eq_true rfl) rfl rfl dX0_offer_19 (fun σ_5 hσ_5 => ?_)
      refine g_aload_n C dX0_offer_22 rfl rfl ?_
      refine g_iload_n C dX0_offer_23 rfl rfl ?_
      refine g_putn C fp_X0_15 (Nat.lt_of_lt_of_le (by decide) hN) rfl rfl (Nat.le_of_ble_eq_true rfl) rfl rfl dX0_offer_24 (fun σ_6 hσ_6 => ?_)
      refine g_vret C r dX0_offer_27 ?_
      clear r C; subst_vars; grind
set_option maxRecDepth 100000 in
set_option maxHeartbeats 4000000 in
theorem ct_X3_addBought (l : Launch) (w : WD) (hN : 54 ≤ wN w) (σ : SG) (x v : Int32) : CtV l w yX3_addBought cX3_addBought 3 1 0 0 [.ref (wA w 28), .int x, .int v] σ (fun τ => τ = up (up σ 29 5 (σ 29 5 + x)) 29 0 (σ 29 0 - x * v)) := by
  refine CtV.mk (by decide) (Nat.le_of_ble_eq_true rfl) ?_
  intro K C hr h0
  have r := RV.of hr h0
  clear hr h0
  show G l w K 0 [(0, .ref (wA w 28)), (1, .int x), (2, .int v)] [] σ
  refine g_aload_n C dX3_addBought_0 rfl rfl ?_
  refine g_get (v := .ref (wA w 29)) C fl_X3_9 fs_X3_9 (Nat.lt_of_lt_of_le (by decide) hN) rfl rfl dX3_addBought_1 ?_
  refine g_iconst C dX3_addBought_4 ic_5 ?_
  refine g_dup2 C dX3_addBought_5 rfl rfl ?_
  refine g_ial (k0 := 29) (n := 6) C (Nat.lt_of_lt_of_le (by decide) hN) rfl (j := 5) (by unfold ix; decide) dX3_addBought_6 ?_
  refine g_iload_n C dX3_addBought_7 rfl rfl ?_
  refine g_iaddv (v := (σ 29 5) + x) C rfl dX3_addBought_8 ?_
  refine g_ias (k0 := 29) (n := 6) C (Nat.lt_of_lt_of_le (by decide) hN) rfl (j := 5) (by unfold ix; decide) dX3_addBought_9 (fun σ_1 hσ_1 => ?_)
  refine g_aload_n C dX3_addBought_10 rfl rfl ?_
  refine g_get (v := .ref (wA w 29)) C fl_X3_9 fs_X3_9 (Nat.lt_of_lt_of_le (by decide) hN) rfl rfl dX3_addBought_11 ?_
  refine g_iconst C dX3_addBought_14 ic_0 ?_
  refine g_dup2 C dX3_addBought_15 rfl rfl ?_
  refine g_ial (k0 := 29) (n := 6) C (Nat.lt_of_lt_of_le (by decide) hN) rfl (j := 0) (by unfold ix; decide) dX3_addBought_16 ?_
  refine g_iload_n C dX3_addBought_17 rfl rfl ?_
  refine g_iload_n C dX3_addBought_18 rfl rfl ?_
  refine g_imulv (v := x * v) C rfl dX3_addBought_19 ?_
  refine g_isubv (v := (σ_1 29 0) - (x * v)) C rfl dX3_addBought_20 ?_
  refine g_ias (k0 := 29) (n := 6) C (Nat.lt_of_lt_of_le (by decide) hN) rfl (j := 0) (by unfold ix; decide) dX3_addBought_21 (fun σ_2 hσ_2 => ?_)
  refine g_vret C r dX3_addBought_22 ?_
  clear r C; subst_vars; simp [up_at]
set_option maxRecDepth 100000 in
set_option maxHeartbeats 4000000 in
theorem ct_X3_addLacked (l : Launch) (w : WD) (hN : 54 ≤ wN w) (σ : SG) (x v : Int32) : CtV l w yX3_addLacked cX3_addLacked 3 1 0 0 [.ref (wA w 28), .int x, .int v] σ (fun τ => τ = up (up σ 29 4 (σ 29 4 + x)) 29 0 (σ 29 0 - x * v)) := by
  refine CtV.mk (by decide) (Nat.le_of_ble_eq_true rfl) ?_
  intro K C hr h0
  have r := RV.of hr h0
  clear hr h0
  show G l w K 0 [(0, .ref (wA w 28)), (1, .int x), (2, .int v)] [] σ
  refine g_aload_n C dX3_addLacked_0 rfl rfl ?_
  refine g_get (v := .ref (wA w 29)) C fl_X3_9 fs_X3_9 (Nat.lt_of_lt_of_le (by decide) hN) rfl rfl dX3_addLacked_1 ?_
  refine g_iconst C dX3_addLacked_4 ic_4 ?_
  refine g_dup2 C dX3_addLacked_5 rfl rfl ?_
  refine g_ial (k0 := 29) (n := 6) C (Nat.lt_of_lt_of_le (by decide) hN) rfl (j := 4) (by unfold ix; decide) dX3_addLacked_6 ?_
  refine g_iload_n C dX3_addLacked_7 rfl rfl ?_
  refine g_iaddv (v := (σ 29 4) + x) C rfl dX3_addLacked_8 ?_
  refine g_ias (k0 := 29) (n := 6) C (Nat.lt_of_lt_of_le (by decide) hN) rfl (j := 4) (by unfold ix; decide) dX3_addLacked_9 (fun σ_1 hσ_1 => ?_)
  refine g_aload_n C dX3_addLacked_10 rfl rfl ?_
  refine g_get (v := .ref (wA w 29)) C fl_X3_9 fs_X3_9 (Nat.lt_of_lt_of_le (by decide) hN) rfl rfl dX3_addLacked_11 ?_
  refine g_iconst C dX3_addLacked_14 ic_0 ?_
  refine g_dup2 C dX3_addLacked_15 rfl rfl ?_
  refine g_ial (k0 := 29) (n := 6) C (Nat.lt_of_lt_of_le (by decide) hN) rfl (j := 0) (by unfold ix; decide) dX3_addLacked_16 ?_
  refine g_iload_n C dX3_addLacked_17 rfl rfl ?_
  refine g_iload_n C dX3_addLacked_18 rfl rfl ?_
  refine g_imulv (v := x * v) C rfl dX3_addLacked_19 ?_
  refine g_isubv (v := (σ_1 29 0) - (x * v)) C rfl dX3_addLacked_20 ?_
  refine g_ias (k0 := 29) (n := 6) C (Nat.lt_of_lt_of_le (by decide) hN) rfl (j := 0) (by unfold ix; decide) dX3_addLacked_21 (fun σ_2 hσ_2 => ?_)
  refine g_vret C r dX3_addLacked_22 ?_
  clear r C; subst_vars; simp [up_at]
set_option maxRecDepth 100000 in
set_option maxHeartbeats 4000000 in
theorem ct_X3_addThrown (l : Launch) (w : WD) (hN : 54 ≤ wN w) (σ : SG) (x v : Int32) : CtV l w yX3_addThrown cX3_addThrown 3 1 0 0 [.ref (wA w 28), .int x, .int v] σ (fun τ => τ = up (up σ 29 3 (σ 29 3 + x)) 29 0 (σ 29 0 - x * v)) := by
  refine CtV.mk (by decide) (Nat.le_of_ble_eq_true rfl) ?_
  intro K C hr h0
  have r := RV.of hr h0
  clear hr h0
  show G l w K 0 [(0, .ref (wA w 28)), (1, .int x), (2, .int v)] [] σ
  refine g_aload_n C dX3_addThrown_0 rfl rfl ?_
  refine g_get (v := .ref (wA w 29)) C fl_X3_9 fs_X3_9 (Nat.lt_of_lt_of_le (by decide) hN) rfl rfl dX3_addThrown_1 ?_
  refine g_iconst C dX3_addThrown_4 ic_3 ?_
  refine g_dup2 C dX3_addThrown_5 rfl rfl ?_
  refine g_ial (k0 := 29) (n := 6) C (Nat.lt_of_lt_of_le (by decide) hN) rfl (j := 3) (by unfold ix; decide) dX3_addThrown_6 ?_
  refine g_iload_n C dX3_addThrown_7 rfl rfl ?_
  refine g_iaddv (v := (σ 29 3) + x) C rfl dX3_addThrown_8 ?_
  refine g_ias (k0 := 29) (n := 6) C (Nat.lt_of_lt_of_le (by decide) hN) rfl (j := 3) (by unfold ix; decide) dX3_addThrown_9 (fun σ_1 hσ_1 => ?_)
  refine g_aload_n C dX3_addThrown_10 rfl rfl ?_
  refine g_get (v := .ref (wA w 29)) C fl_X3_9 fs_X3_9 (Nat.lt_of_lt_of_le (by decide) hN) rfl rfl dX3_addThrown_11 ?_
  refine g_iconst C dX3_addThrown_14 ic_0 ?_
  refine g_dup2 C dX3_addThrown_15 rfl rfl ?_
  refine g_ial (k0 := 29) (n := 6) C (Nat.lt_of_lt_of_le (by decide) hN) rfl (j := 0) (by unfold ix; decide) dX3_addThrown_16 ?_
  refine g_iload_n C dX3_addThrown_17 rfl rfl ?_
  refine g_iload_n C dX3_addThrown_18 rfl rfl ?_
  refine g_imulv (v := x * v) C rfl dX3_addThrown_19 ?_
  refine g_isubv (v := (σ_1 29 0) - (x * v)) C rfl dX3_addThrown_20 ?_
  refine g_ias (k0 := 29) (n := 6) C (Nat.lt_of_lt_of_le (by decide) hN) rfl (j := 0) (by unfold ix; decide) dX3_addThrown_21 (fun σ_2 hσ_2 => ?_)
  refine g_vret C r dX3_addThrown_22 ?_
  clear r C; subst_vars; simp [up_at]
set_option maxRecDepth 100000 in
set_option maxHeartbeats 4000000 in
theorem ct_X1_has (l : Launch) (w : WD) (hN : 54 ≤ wN w) (σ : SG) (b : Nat) (hb : HB b) (x : Int32) : CtI l w yX1_has cX1_has 2 (some .boolean) 1 0 0 [.ref (wA w b), .int x] σ (fun r τ => r = bI (0 ≤ x ∧ x < σ b 4) ∧ τ = σ) := by
  refine CtI.mk (by decide) (Nat.le_of_ble_eq_true rfl) ?_
  intro K C hr h0
  have r := RI.of hr h0
  clear hr h0
  show G l w K 0 [(0, .ref (wA w b)), (1, .int x)] [] σ
  refine g_iload_n C dX1_has_0 rfl rfl ?_
  refine g_if_lt (tgt := 16) C dX1_has_1 rfl (fun c1_1 => ?_) (fun c1_1 => ?_)
  · skip
    refine g_iconst C dX1_has_16 ic_0 ?_
    refine g_iret C r rfl dX1_has_17 ?_
    refine ⟨?_, rfl⟩
    clear r C
    grind
  · skip
    refine g_iload_n C dX1_has_4 rfl rfl ?_
    refine g_aload_n C dX1_has_5 rfl rfl ?_
    refine g_get (v := .int (σ b 4)) C fl_X1_32 fs_X1_32 (HB.n0 hb hN) (HB.ou hb _) rfl dX1_has_6 ?_
    refine g_icmp_ge (tgt := 16) C dX1_has_9 rfl (fun c9_2 => ?_) (fun c9_2 => ?_)
    · skip
      refine g_iconst C dX1_has_16 ic_0 ?_
      refine g_iret C r rfl dX1_has_17 ?_
      refine ⟨?_, rfl⟩
      clear r C
      grind
    · skip
      refine g_iconst C dX1_has_12 ic_1 ?_
      refine g_goto (tgt := 17) C dX1_has_13 rfl ?_
      refine g_iret C r rfl dX1_has_17 ?_
      refine ⟨?_, rfl⟩
      clear r C
      grind
set_option maxRecDepth 100000 in
set_option maxHeartbeats 4000000 in
theorem ct_X1_allSlices (l : Launch) (w : WD) (hN : 54 ≤ wN w) (σ : SG) (b : Nat) (hb : HB b) (a : Row) (hH : Hh σ b a) (hB : Bd a) : CtI l w yX1_allSlices cX1_allSlices 3 (some .int) 1 0 0 [.ref (wA w b)] σ (fun r τ => r = nI (sumN (fun k => a (10 + k)) 5) ∧ τ = σ) := by
  refine CtI.mk (by decide) (Nat.le_of_ble_eq_true rfl) ?_
  intro K C hr h0
  have r := RI.of hr h0
  clear hr h0
  show G l w K 0 [(0, .ref (wA w b))] [] σ
  refine g_iconst C dX1_allSlices_0 ic_0 ?_
  refine g_istore_n (lv' := [(1, .int 0), (0, .ref (wA w b))]) C dX1_allSlices_1 rfl (by decide) rfl ?_
  refine g_iconst C dX1_allSlices_2 ic_0 ?_
  refine g_istore_n (lv' := [(2, .int 0), (1, .int 0), (0, .ref (wA w b))]) C dX1_allSlices_3 rfl (by decide) rfl ?_
  have L4 : ∀ (m4 : Nat) (k : Nat), m4 = 5 - k → (k ≤ 5) → G l w K 4 [(0, .ref (wA w b)), (1, .int (nI (sumN (fun k => a (10 + k)) k))), (2, .int (nI k))] [] σ := by
    intro m4
    induction m4 using Nat.strongRecOn with
    | ind m4 ih4 =>
    intro k em4 hk
    refine g_iload_n C dX1_allSlices_4 rfl rfl ?_
    refine g_iconst C dX1_allSlices_5 ic_5 ?_
    refine g_icmp_ge (tgt := 24) C dX1_allSlices_6 rfl (fun c6_1 => ?_) (fun c6_1 => ?_)
    · skip
      have n6_1 : 5 ≤ k := (nj_le (a := 5) (b := k) (by omega) (by omega)).mp c6_1
      refine g_iload_n C dX1_allSlices_24 rfl rfl ?_
      refine g_iret C r rfl dX1_allSlices_25 ?_
      obtain rfl : k = 5 := by omega
      exact ⟨rfl, rfl⟩
    · skip
      have n6_1 : ¬ (5 ≤ k) := fun q => c6_1 ((nj_le (a := 5) (b := k) (by omega) (by omega)).mpr q)
      refine g_iload_n C dX1_allSlices_9 rfl rfl ?_
      refine g_aload_n C dX1_allSlices_10 rfl rfl ?_
      refine g_get (v := .ref (wA w (b + 1))) C fl_X1_9 fs_X1_9 (HB.n0 hb hN) (HB.ou hb _) rfl dX1_allSlices_11 ?_
      refine g_iload_n C dX1_allSlices_14 rfl rfl ?_
      refine g_ial (k0 := (b + 1)) (n := 5) C (HB.n hb hN (by decide)) (HB.s hb) (j := k) (ix_n (by omega)) dX1_allSlices_15 ?_
      refine g_val (y := nI (a (10 + k))) (Hh.s hH (by omega)) ?_
      refine g_iaddv (v := nI ((sumN (fun k => a (10 + k)) k) + (a (10 + k)))) C (nj_plus (sumN (fun k => a (10 + k)) k) (a (10 + k))) dX1_allSlices_16 ?_
      refine g_istore_n (lv' := [(1, .int (nI ((sumN (fun k => a (10 + k)) k) + (a (10 + k))))), (0, .ref (wA w b)), (2, .int (nI k))]) C dX1_allSlices_17 rfl (by decide) rfl ?_
      refine g_iinc (v := nI (k + 1)) (lv' := [(2, .int (nI (k + 1))), (1, .int (nI ((sumN (fun k => a (10 + k)) k) + (a (10 + k))))), (0, .ref (wA w b))]) C dX1_allSlices_18 (by decide) rfl (nj_inc k) rfl ?_
      refine g_goto (tgt := 4) C dX1_allSlices_21 rfl ?_
      exact g_lvp [2, 1, 0] rfl (ih4 (5 - (k + 1)) (by omega) (k + 1) rfl (by first | omega | assumption | rfl | grind))
  exact g_lvp [2, 1, 0] rfl (L4 (5 - 0) 0 rfl (by first | omega | assumption | rfl | grind))
set_option maxRecDepth 100000 in
set_option maxHeartbeats 4000000 in
theorem ct_X1_openDays (l : Launch) (w : WD) (hN : 54 ≤ wN w) (σ : SG) (b : Nat) (hb : HB b) (a : Row) (hH : Hh σ b a) (hB : Bd a) : CtI l w yX1_openDays cX1_openDays 3 (some .int) 1 0 0 [.ref (wA w b)] σ (fun r τ => r = nI (sumN (fun k => a (20 + k)) 7) ∧ τ = σ) := by
  refine CtI.mk (by decide) (Nat.le_of_ble_eq_true rfl) ?_
  intro K C hr h0
  have r := RI.of hr h0
  clear hr h0
  show G l w K 0 [(0, .ref (wA w b))] [] σ
  refine g_iconst C dX1_openDays_0 ic_0 ?_
  refine g_istore_n (lv' := [(1, .int 0), (0, .ref (wA w b))]) C dX1_openDays_1 rfl (by decide) rfl ?_
  refine g_iconst C dX1_openDays_2 ic_0 ?_
  refine g_istore_n (lv' := [(2, .int 0), (1, .int 0), (0, .ref (wA w b))]) C dX1_openDays_3 rfl (by decide) rfl ?_
  have L4 : ∀ (m4 : Nat) (k : Nat), m4 = 7 - k → (k ≤ 7) → G l w K 4 [(0, .ref (wA w b)), (1, .int (nI (sumN (fun k => a (20 + k)) k))), (2, .int (nI k))] [] σ := by
    intro m4
    induction m4 using Nat.strongRecOn with
    | ind m4 ih4 =>
    intro k em4 hk
    refine g_iload_n C dX1_openDays_4 rfl rfl ?_
    refine g_bipush C dX1_openDays_5 bp_7 ?_
    refine g_icmp_ge (tgt := 25) C dX1_openDays_7 rfl (fun c7_1 => ?_) (fun c7_1 => ?_)
    · skip
      have n7_1 : 7 ≤ k := (nj_le (a := 7) (b := k) (by omega) (by omega)).mp c7_1
      refine g_iload_n C dX1_openDays_25 rfl rfl ?_
      refine g_iret C r rfl dX1_openDays_26 ?_
      obtain rfl : k = 7 := by omega
      exact ⟨rfl, rfl⟩
    · skip
      have n7_1 : ¬ (7 ≤ k) := fun q => c7_1 ((nj_le (a := 7) (b := k) (by omega) (by omega)).mpr q)
      refine g_iload_n C dX1_openDays_10 rfl rfl ?_
      refine g_aload_n C dX1_openDays_11 rfl rfl ?_
      refine g_get (v := .ref (wA w (b + 2))) C fl_X1_15 fs_X1_15 (HB.n0 hb hN) (HB.ou hb _) rfl dX1_openDays_12 ?_
      refine g_iload_n C dX1_openDays_15 rfl rfl ?_
      refine g_ial (k0 := (b + 2)) (n := 7) C (HB.n hb hN (by decide)) (HB.p hb) (j := k) (ix_n (by omega)) dX1_openDays_16 ?_
      refine g_val (y := nI (a (20 + k))) (Hh.p hH (by omega)) ?_
      refine g_iaddv (v := nI ((sumN (fun k => a (20 + k)) k) + (a (20 + k)))) C (nj_plus (sumN (fun k => a (20 + k)) k) (a (20 + k))) dX1_openDays_17 ?_
      refine g_istore_n (lv' := [(1, .int (nI ((sumN (fun k => a (20 + k)) k) + (a (20 + k))))), (0, .ref (wA w b)), (2, .int (nI k))]) C dX1_openDays_18 rfl (by decide) rfl ?_
      refine g_iinc (v := nI (k + 1)) (lv' := [(2, .int (nI (k + 1))), (1, .int (nI ((sumN (fun k => a (20 + k)) k) + (a (20 + k))))), (0, .ref (wA w b))]) C dX1_openDays_19 (by decide) rfl (nj_inc k) rfl ?_
      refine g_goto (tgt := 4) C dX1_openDays_22 rfl ?_
      exact g_lvp [2, 1, 0] rfl (ih4 (7 - (k + 1)) (by omega) (k + 1) rfl (by first | omega | assumption | rfl | grind))
  exact g_lvp [2, 1, 0] rfl (L4 (7 - 0) 0 rfl (by first | omega | assumption | rfl | grind))
set_option maxRecDepth 100000 in
set_option maxHeartbeats 4000000 in
theorem ct_X1_allHunger (l : Launch) (w : WD) (hN : 54 ≤ wN w) (σ : SG) (b : Nat) (hb : HB b) (a : Row) (hH : Hh σ b a) (hB : Bd a) : CtI l w yX1_allHunger cX1_allHunger 3 (some .int) 1 0 0 [.ref (wA w b)] σ (fun r τ => r = nI (sumN (fun e => a (30 + 4 * e + 1)) (a 0)) ∧ τ = σ) := by
  refine CtI.mk (by decide) (Nat.le_of_ble_eq_true rfl) ?_
  intro K C hr h0
  have r := RI.of hr h0
  clear hr h0
  show G l w K 0 [(0, .ref (wA w b))] [] σ
  obtain ⟨hBa, hB0, hB1, hB2, hB3, hB4, hB5, hB6, hB7, hBs, hBp, hBe⟩ := id hB
  refine g_iconst C dX1_allHunger_0 ic_0 ?_
  refine g_istore_n (lv' := [(1, .int 0), (0, .ref (wA w b))]) C dX1_allHunger_1 rfl (by decide) rfl ?_
  refine g_iconst C dX1_allHunger_2 ic_0 ?_
  refine g_istore_n (lv' := [(2, .int 0), (1, .int 0), (0, .ref (wA w b))]) C dX1_allHunger_3 rfl (by decide) rfl ?_
  have L4 : ∀ (m4 : Nat) (e : Nat), m4 = a 0 - e → (e ≤ a 0) → G l w K 4 [(0, .ref (wA w b)), (1, .int (nI (sumN (fun e => a (30 + 4 * e + 1)) e))), (2, .int (nI e))] [] σ := by
    intro m4
    induction m4 using Nat.strongRecOn with
    | ind m4 ih4 =>
    intro e em4 he
    refine g_iload_n C dX1_allHunger_4 rfl rfl ?_
    refine g_aload_n C dX1_allHunger_5 rfl rfl ?_
    refine g_get (v := .int (σ b 4)) C fl_X1_32 fs_X1_32 (HB.n0 hb hN) (HB.ou hb _) rfl dX1_allHunger_6 ?_
    refine g_val (y := nI (a 0)) (Hh.c hH) ?_
    refine g_icmp_ge (tgt := 29) C dX1_allHunger_9 rfl (fun c9_1 => ?_) (fun c9_1 => ?_)
    · skip
      have n9_1 : a 0 ≤ e := (nj_le (a := a 0) (b := e) (by have := hBa 0; omega) (by have := hBa 0; omega)).mp c9_1
      refine g_iload_n C dX1_allHunger_29 rfl rfl ?_
      refine g_iret C r rfl dX1_allHunger_30 ?_
      obtain rfl : e = a 0 := by omega
      exact ⟨rfl, rfl⟩
    · skip
      have n9_1 : ¬ (a 0 ≤ e) := fun q => c9_1 ((nj_le (a := a 0) (b := e) (by have := hBa 0; omega) (by have := hBa 0; omega)).mpr q)
      refine g_iload_n C dX1_allHunger_12 rfl rfl ?_
      refine g_aload_n C dX1_allHunger_13 rfl rfl ?_
      refine g_get (v := .ref (wA w (b + 4))) C fl_X1_23 fs_X1_23 (HB.n0 hb hN) (HB.ou hb _) rfl dX1_allHunger_14 ?_
      refine g_iload_n C dX1_allHunger_17 rfl rfl ?_
      refine g_aal (k0 := (b + 4)) (b := b) C (HB.n hb hN (by decide)) (HB.e hb) (j := e) (ix_n (by omega)) dX1_allHunger_18 ?_
      refine g_iconst C dX1_allHunger_19 ic_1 ?_
      refine g_ial (k0 := (b + 5 + e)) (n := 4) C (HB.nr hb hN (by omega)) (HB.r hb (by omega)) (j := 1) (by unfold ix; decide) dX1_allHunger_20 ?_
      refine g_val (y := nI (a (30 + 4 * e + 1))) (Hh.e hH (by omega) (by omega)) ?_
      refine g_iaddv (v := nI ((sumN (fun e => a (30 + 4 * e + 1)) e) + (a (30 + 4 * e + 1)))) C (nj_plus (sumN (fun e => a (30 + 4 * e + 1)) e) (a (30 + 4 * e + 1))) dX1_allHunger_21 ?_
      refine g_istore_n (lv' := [(1, .int (nI ((sumN (fun e => a (30 + 4 * e + 1)) e) + (a (30 + 4 * e + 1))))), (0, .ref (wA w b)), (2, .int (nI e))]) C dX1_allHunger_22 rfl (by decide) rfl ?_
      refine g_iinc (v := nI (e + 1)) (lv' := [(2, .int (nI (e + 1))), (1, .int (nI ((sumN (fun e => a (30 + 4 * e + 1)) e) + (a (30 + 4 * e + 1))))), (0, .ref (wA w b))]) C dX1_allHunger_23 (by decide) rfl (nj_inc e) rfl ?_
      refine g_goto (tgt := 4) C dX1_allHunger_26 rfl ?_
      exact g_lvp [2, 1, 0] rfl (ih4 (a 0 - (e + 1)) (by omega) (e + 1) rfl (by first | omega | assumption | rfl | grind))
  exact g_lvp [2, 1, 0] rfl (L4 (a 0 - 0) 0 rfl (by first | omega | assumption | rfl | grind))
set_option maxRecDepth 100000 in
set_option maxHeartbeats 4000000 in
theorem ct_X1_inReach (l : Launch) (w : WD) (hN : 54 ≤ wN w) (σ : SG) (b : Nat) (hb : HB b) (a : Row) (hH : Hh σ b a) (hB : Bd a) (g : Nat) (hg : g < 5) : CtI l w yX1_inReach cX1_inReach 4 (some .int) 1 0 0 [.ref (wA w b), .int (nI g)] σ (fun r τ => r = inRj a g ∧ τ = σ) := by
  refine CtI.mk (by decide) (Nat.le_of_ble_eq_true rfl) ?_
  intro K C hr h0
  have r := RI.of hr h0
  clear hr h0
  show G l w K 0 [(0, .ref (wA w b)), (1, .int (nI g))] [] σ
  obtain ⟨hBa, hB0, hB1, hB2, hB3, hB4, hB5, hB6, hB7, hBs, hBp, hBe⟩ := id hB
  refine g_aload_n C dX1_inReach_0 rfl rfl ?_
  refine g_get (v := .ref (wA w (b + 3))) C fl_X1_18 fs_X1_18 (HB.n0 hb hN) (HB.ou hb _) rfl dX1_inReach_1 ?_
  refine g_iconst C dX1_inReach_4 ic_5 ?_
  refine g_ial (k0 := (b + 3)) (n := 6) C (HB.n hb hN (by decide)) (HB.t hb) (j := 5) (by unfold ix; decide) dX1_inReach_5 ?_
  refine g_val (y := nI (a 7)) (Hh.t hH (by omega)) ?_
  refine g_istore_n (lv' := [(2, .int (nI (a 7))), (0, .ref (wA w b)), (1, .int (nI g))]) C dX1_inReach_6 rfl (by decide) rfl ?_
  refine g_iload_n C dX1_inReach_7 rfl rfl ?_
  refine g_if_ne (tgt := 25) C dX1_inReach_8 rfl (fun c8_1 => ?_) (fun c8_1 => ?_)
  · skip
    have n8_1 : ¬ (g = 0) := fun q => c8_1 ((nj_eq (a := g) (b := 0) (by omega) (by omega)).mpr q)
    refine g_iconst C dX1_inReach_25 ic_0 ?_
    refine g_istore_n (lv' := [(3, .int 0), (2, .int (nI (a 7))), (0, .ref (wA w b)), (1, .int (nI g))]) C dX1_inReach_26 rfl (by decide) rfl ?_
    refine g_iload_n C dX1_inReach_27 rfl rfl ?_
    refine g_if_eq (tgt := 42) C dX1_inReach_28 rfl (fun c28_2 => ?_) (fun c28_2 => ?_)
    · skip
      refine g_aload_n C dX1_inReach_42 rfl rfl ?_
      refine g_get (v := .ref (wA w (b + 1))) C fl_X1_9 fs_X1_9 (HB.n0 hb hN) (HB.ou hb _) rfl dX1_inReach_43 ?_
      refine g_iload_n C dX1_inReach_46 rfl rfl ?_
      refine g_ial (k0 := (b + 1)) (n := 5) C (HB.n hb hN (by decide)) (HB.s hb) (j := g) (ix_n (by omega)) dX1_inReach_47 ?_
      refine g_val (y := nI (a (10 + g))) (Hh.s hH (by omega)) ?_
      refine g_iret C r rfl dX1_inReach_48 ?_
      refine ⟨?_, rfl⟩
      clear r C
      unfold inRj
      first | rw [if_pos (by omega)] | rw [if_neg (by omega)]
      all_goals rfl
    · exact absurd c28_2 (by decide)
  · skip
    have n8_1 : g = 0 := (nj_eq (a := g) (b := 0) (by omega) (by omega)).mp c8_1
    refine g_iload_n C dX1_inReach_11 rfl rfl ?_
    refine g_iconst C dX1_inReach_12 ic_3 ?_
    refine g_icmp_eq (tgt := 21) C dX1_inReach_13 rfl (fun c13_3 => ?_) (fun c13_3 => ?_)
    · skip
      have n13_3 : a 7 = 3 := (nj_eq (a := a 7) (b := 3) (by have := hBa 7; omega) (by have := hBa 7; omega)).mp c13_3
      refine g_iconst C dX1_inReach_21 ic_1 ?_
      refine g_goto (tgt := 26) C dX1_inReach_22 rfl ?_
      refine g_istore_n (lv' := [(3, .int 1), (2, .int (nI (a 7))), (0, .ref (wA w b)), (1, .int (nI g))]) C dX1_inReach_26 rfl (by decide) rfl ?_
      refine g_iload_n C dX1_inReach_27 rfl rfl ?_
      refine g_if_eq (tgt := 42) C dX1_inReach_28 rfl (fun c28_4 => ?_) (fun c28_4 => ?_)
      · exact absurd c28_4 (by decide)
      · skip
        refine g_aload_n C dX1_inReach_31 rfl rfl ?_
        refine g_get (v := .ref (wA w (b + 1))) C fl_X1_9 fs_X1_9 (HB.n0 hb hN) (HB.ou hb _) rfl dX1_inReach_32 ?_
        refine g_iload_n C dX1_inReach_35 rfl rfl ?_
        refine g_ial (k0 := (b + 1)) (n := 5) C (HB.n hb hN (by decide)) (HB.s hb) (j := g) (ix_n (by omega)) dX1_inReach_36 ?_
        refine g_val (y := nI (a (10 + g))) (Hh.s hH (by omega)) ?_
        refine g_iconst C dX1_inReach_37 ic_3 ?_
        refine g_isubv (v := (nI (a (10 + g))) - 3) C rfl dX1_inReach_38 ?_
        refine g_goto (tgt := 48) C dX1_inReach_39 rfl ?_
        refine g_iret C r rfl dX1_inReach_48 ?_
        refine ⟨?_, rfl⟩
        clear r C
        unfold inRj
        first | rw [if_pos (by omega)] | rw [if_neg (by omega)]
        all_goals rfl
    · skip
      have n13_3 : ¬ (a 7 = 3) := fun q => c13_3 ((nj_eq (a := a 7) (b := 3) (by have := hBa 7; omega) (by have := hBa 7; omega)).mpr q)
      refine g_iload_n C dX1_inReach_16 rfl rfl ?_
      refine g_iconst C dX1_inReach_17 ic_5 ?_
      refine g_icmp_ne (tgt := 25) C dX1_inReach_18 rfl (fun c18_5 => ?_) (fun c18_5 => ?_)
      · skip
        have n18_5 : ¬ (a 7 = 5) := fun q => c18_5 ((nj_eq (a := a 7) (b := 5) (by have := hBa 7; omega) (by have := hBa 7; omega)).mpr q)
        refine g_iconst C dX1_inReach_25 ic_0 ?_
        refine g_istore_n (lv' := [(3, .int 0), (2, .int (nI (a 7))), (0, .ref (wA w b)), (1, .int (nI g))]) C dX1_inReach_26 rfl (by decide) rfl ?_
        refine g_iload_n C dX1_inReach_27 rfl rfl ?_
        refine g_if_eq (tgt := 42) C dX1_inReach_28 rfl (fun c28_6 => ?_) (fun c28_6 => ?_)
        · skip
          refine g_aload_n C dX1_inReach_42 rfl rfl ?_
          refine g_get (v := .ref (wA w (b + 1))) C fl_X1_9 fs_X1_9 (HB.n0 hb hN) (HB.ou hb _) rfl dX1_inReach_43 ?_
          refine g_iload_n C dX1_inReach_46 rfl rfl ?_
          refine g_ial (k0 := (b + 1)) (n := 5) C (HB.n hb hN (by decide)) (HB.s hb) (j := g) (ix_n (by omega)) dX1_inReach_47 ?_
          refine g_val (y := nI (a (10 + g))) (Hh.s hH (by omega)) ?_
          refine g_iret C r rfl dX1_inReach_48 ?_
          refine ⟨?_, rfl⟩
          clear r C
          unfold inRj
          first | rw [if_pos (by omega)] | rw [if_neg (by omega)]
          all_goals rfl
        · exact absurd c28_6 (by decide)
      · skip
        have n18_5 : a 7 = 5 := (nj_eq (a := a 7) (b := 5) (by have := hBa 7; omega) (by have := hBa 7; omega)).mp c18_5
        refine g_iconst C dX1_inReach_21 ic_1 ?_
        refine g_goto (tgt := 26) C dX1_inReach_22 rfl ?_
        refine g_istore_n (lv' := [(3, .int 1), (2, .int (nI (a 7))), (0, .ref (wA w b)), (1, .int (nI g))]) C dX1_inReach_26 rfl (by decide) rfl ?_
        refine g_iload_n C dX1_inReach_27 rfl rfl ?_
        refine g_if_eq (tgt := 42) C dX1_inReach_28 rfl (fun c28_7 => ?_) (fun c28_7 => ?_)
        · exact absurd c28_7 (by decide)
        · skip
          refine g_aload_n C dX1_inReach_31 rfl rfl ?_
          refine g_get (v := .ref (wA w (b + 1))) C fl_X1_9 fs_X1_9 (HB.n0 hb hN) (HB.ou hb _) rfl dX1_inReach_32 ?_
          refine g_iload_n C dX1_inReach_35 rfl rfl ?_
          refine g_ial (k0 := (b + 1)) (n := 5) C (HB.n hb hN (by decide)) (HB.s hb) (j := g) (ix_n (by omega)) dX1_inReach_36 ?_
          refine g_val (y := nI (a (10 + g))) (Hh.s hH (by omega)) ?_
          refine g_iconst C dX1_inReach_37 ic_3 ?_
          refine g_isubv (v := (nI (a (10 + g))) - 3) C rfl dX1_inReach_38 ?_
          refine g_goto (tgt := 48) C dX1_inReach_39 rfl ?_
          refine g_iret C r rfl dX1_inReach_48 ?_
          refine ⟨?_, rfl⟩
          clear r C
          unfold inRj
          first | rw [if_pos (by omega)] | rw [if_neg (by omega)]
          all_goals rfl
set_option maxRecDepth 100000 in
set_option maxHeartbeats 4000000 in
theorem ct_X1_worthTo (l : Launch) (w : WD) (hN : 54 ≤ wN w) (σ : SG) (b : Nat) (hb : HB b) (a : Row) (hH : Hh σ b a) (hB : Bd a) (e g : Nat) (he : e < 4) (hg : g < 5) : CtI l w yX1_worthTo cX1_worthTo 8 (some .int) 1 0 0 [.ref (wA w b), .int (nI e), .int (nI g)] σ (fun r τ => r = wJ a e g ∧ τ = σ) := by
  refine CtI.mk (by decide) (Nat.le_of_ble_eq_true rfl) ?_
  intro K C hr h0
  have r := RI.of hr h0
  clear hr h0
  show G l w K 0 [(0, .ref (wA w b)), (1, .int (nI e)), (2, .int (nI g))] [] σ
  obtain ⟨hBa, hB0, hB1, hB2, hB3, hB4, hB5, hB6, hB7, hBs, hBp, hBe⟩ := id hB
  have hBk := hBe e he
  refine g_aload_n C dX1_worthTo_0 rfl rfl ?_
  refine g_get (v := .ref (wA w (b + 4))) C fl_X1_23 fs_X1_23 (HB.n0 hb hN) (HB.ou hb _) rfl dX1_worthTo_1 ?_
  refine g_iload_n C dX1_worthTo_4 rfl rfl ?_
  refine g_aal (k0 := (b + 4)) (b := b) C (HB.n hb hN (by decide)) (HB.e hb) (j := e) (ix_n (by omega)) dX1_worthTo_5 ?_
  refine g_iconst C dX1_worthTo_6 ic_2 ?_
  refine g_ial (k0 := (b + 5 + e)) (n := 4) C (HB.nr hb hN (by omega)) (HB.r hb (by omega)) (j := 2) (by unfold ix; decide) dX1_worthTo_7 ?_
  refine g_val (y := nI (a (30 + 4 * e + 2))) (Hh.e hH (by omega) (by omega)) ?_
  refine g_istore_n (lv' := [(3, .int (nI (a (30 + 4 * e + 2)))), (0, .ref (wA w b)), (1, .int (nI e)), (2, .int (nI g))]) C dX1_worthTo_8 rfl (by decide) rfl ?_
  refine g_aload_n C dX1_worthTo_9 rfl rfl ?_
  refine g_get (v := .ref (wA w (b + 4))) C fl_X1_23 fs_X1_23 (HB.n0 hb hN) (HB.ou hb _) rfl dX1_worthTo_10 ?_
  refine g_iload_n C dX1_worthTo_13 rfl rfl ?_
  refine g_aal (k0 := (b + 4)) (b := b) C (HB.n hb hN (by decide)) (HB.e hb) (j := e) (ix_n (by omega)) dX1_worthTo_14 ?_
  refine g_iconst C dX1_worthTo_15 ic_0 ?_
  refine g_ial (k0 := (b + 5 + e)) (n := 4) C (HB.nr hb hN (by omega)) (HB.r hb (by omega)) (j := 0) (by unfold ix; decide) dX1_worthTo_16 ?_
  refine g_val (y := nI (a (30 + 4 * e))) (Hh.e hH (by omega) (by omega)) ?_
  refine g_istore (lv' := [(4, .int (nI (a (30 + 4 * e)))), (3, .int (nI (a (30 + 4 * e + 2)))), (0, .ref (wA w b)), (1, .int (nI e)), (2, .int (nI g))]) C dX1_worthTo_17 (by decide) rfl ?_
  refine g_iload_n C dX1_worthTo_19 rfl rfl ?_
  refine g_iload_n C dX1_worthTo_20 rfl rfl ?_
  refine g_icmp_le (tgt := 30) C dX1_worthTo_21 rfl (fun c21_1 => ?_) (fun c21_1 => ?_)
  · skip
    have n21_1 : a (30 + 4 * e + 2) ≤ g := (nj_le (a := a (30 + 4 * e + 2)) (b := g) (by have := hBa (30 + 4 * e + 2); omega) (by have := hBa (30 + 4 * e + 2); omega)).mp c21_1
    refine g_iconst C dX1_worthTo_30 ic_0 ?_
    refine g_istore (lv' := [(5, .int 0), (4, .int (nI (a (30 + 4 * e)))), (3, .int (nI (a (30 + 4 * e + 2)))), (0, .ref (wA w b)), (1, .int (nI e)), (2, .int (nI g))]) C dX1_worthTo_31 (by decide) rfl ?_
    refine g_iload C dX1_worthTo_33 rfl ?_
    by_cases s35_0 : nI (a (30 + 4 * e)) = 1
    · skip
      have ns35_0 : a (30 + 4 * e) = 1 := (nj_eq (a := a (30 + 4 * e)) (b := 1) (by have := hBa (30 + 4 * e); omega) (by have := hBa (30 + 4 * e); omega)).mp s35_0
      refine g_tsw (v := 1) (tgt := 68) C dX1_worthTo_35 s35_0 (by decide) (by decide) rfl rfl ?_
      refine g_iload_n C dX1_worthTo_68 rfl rfl ?_
      refine g_if_ne (tgt := 76) C dX1_worthTo_69 rfl (fun c69_2 => ?_) (fun c69_2 => ?_)
      · skip
        have n69_2 : ¬ (g = 0) := fun q => c69_2 ((nj_eq (a := g) (b := 0) (by omega) (by omega)).mpr q)
        refine g_iconst C dX1_worthTo_76 ic_m1 ?_
        refine g_iret C r rfl dX1_worthTo_77 ?_
        refine ⟨?_, rfl⟩
        clear r C
        simp only [wJ, wNt, eats]
        repeat first | rw [if_pos (by omega)] | rw [if_neg (by omega)]
        all_goals first | rfl | exact congrArg nI (by omega) | exact congrArg nI (show 0 = _ by omega)
      · skip
        have n69_2 : g = 0 := (nj_eq (a := g) (b := 0) (by omega) (by omega)).mp c69_2
        refine g_iload_n C dX1_worthTo_72 rfl rfl ?_
        refine g_goto (tgt := 77) C dX1_worthTo_73 rfl ?_
        refine g_iret C r rfl dX1_worthTo_77 ?_
        refine ⟨?_, rfl⟩
        clear r C
        simp only [wJ, wNt, eats]
        repeat first | rw [if_pos (by omega)] | rw [if_neg (by omega)]
        all_goals first | rfl | exact congrArg nI (by omega) | exact congrArg nI (show 0 = _ by omega)
    have ns35_0 : ¬ (a (30 + 4 * e) = 1) := fun q => s35_0 ((nj_eq (a := a (30 + 4 * e)) (b := 1) (by have := hBa (30 + 4 * e); omega) (by have := hBa (30 + 4 * e); omega)).mpr q)
    by_cases s35_1 : nI (a (30 + 4 * e)) = 2
    · skip
      have ns35_1 : a (30 + 4 * e) = 2 := (nj_eq (a := a (30 + 4 * e)) (b := 2) (by have := hBa (30 + 4 * e); omega) (by have := hBa (30 + 4 * e); omega)).mp s35_1
      refine g_tsw (v := 2) (tgt := 78) C dX1_worthTo_35 s35_1 (by decide) (by decide) rfl rfl ?_
      refine g_iload_n C dX1_worthTo_78 rfl rfl ?_
      refine g_iconst C dX1_worthTo_79 ic_3 ?_
      refine g_icmp_lt (tgt := 89) C dX1_worthTo_80 rfl (fun c80_3 => ?_) (fun c80_3 => ?_)
      · skip
        have n80_3 : g < 3 := (nj_lt (a := g) (b := 3) (by omega) (by omega)).mp c80_3
        refine g_iload C dX1_worthTo_89 rfl ?_
        refine g_iret C r rfl dX1_worthTo_91 ?_
        refine ⟨?_, rfl⟩
        clear r C
        simp only [wJ, wNt, eats]
        repeat first | rw [if_pos (by omega)] | rw [if_neg (by omega)]
        all_goals first | rfl | exact congrArg nI (by omega) | exact congrArg nI (show 0 = _ by omega)
      · skip
        have n80_3 : ¬ (g < 3) := fun q => c80_3 ((nj_lt (a := g) (b := 3) (by omega) (by omega)).mpr q)
        refine g_iload_n C dX1_worthTo_83 rfl rfl ?_
        refine g_iconst C dX1_worthTo_84 ic_1 ?_
        refine g_iaddv (v := nI ((a (30 + 4 * e + 2)) + 1)) C (nj_plus (a (30 + 4 * e + 2)) 1) dX1_worthTo_85 ?_
        refine g_goto (tgt := 91) C dX1_worthTo_86 rfl ?_
        refine g_iret C r rfl dX1_worthTo_91 ?_
        refine ⟨?_, rfl⟩
        clear r C
        simp only [wJ, wNt, eats]
        repeat first | rw [if_pos (by omega)] | rw [if_neg (by omega)]
        all_goals first | rfl | exact congrArg nI (by omega) | exact congrArg nI (show 0 = _ by omega)
    have ns35_1 : ¬ (a (30 + 4 * e) = 2) := fun q => s35_1 ((nj_eq (a := a (30 + 4 * e)) (b := 2) (by have := hBa (30 + 4 * e); omega) (by have := hBa (30 + 4 * e); omega)).mpr q)
    by_cases s35_2 : nI (a (30 + 4 * e)) = 3
    · skip
      have ns35_2 : a (30 + 4 * e) = 3 := (nj_eq (a := a (30 + 4 * e)) (b := 3) (by have := hBa (30 + 4 * e); omega) (by have := hBa (30 + 4 * e); omega)).mp s35_2
      refine g_tsw (v := 3) (tgt := 94) C dX1_worthTo_35 s35_2 (by decide) (by decide) rfl rfl ?_
      refine g_iload_n C dX1_worthTo_94 rfl rfl ?_
      refine g_iconst C dX1_worthTo_95 ic_1 ?_
      refine g_icmp_le (tgt := 101) C dX1_worthTo_96 rfl (fun c96_4 => ?_) (fun c96_4 => ?_)
      · skip
        have n96_4 : g ≤ 1 := (nj_le (a := g) (b := 1) (by omega) (by omega)).mp c96_4
        refine g_iload_n C dX1_worthTo_101 rfl rfl ?_
        refine g_if_ne (tgt := 109) C dX1_worthTo_102 rfl (fun c102_5 => ?_) (fun c102_5 => ?_)
        · skip
          have n102_5 : ¬ (g = 0) := fun q => c102_5 ((nj_eq (a := g) (b := 0) (by omega) (by omega)).mpr q)
          refine g_iload_n C dX1_worthTo_109 rfl rfl ?_
          refine g_iconst C dX1_worthTo_110 ic_2 ?_
          refine g_idivv (v := nI (a (30 + 4 * e + 2) / 2)) C (by decide) (nj_div2 (by have := hBa (30 + 4 * e + 2); omega)) dX1_worthTo_111 ?_
          refine g_istore (lv' := [(6, .int (nI (a (30 + 4 * e + 2) / 2))), (5, .int 0), (4, .int (nI (a (30 + 4 * e)))), (3, .int (nI (a (30 + 4 * e + 2)))), (0, .ref (wA w b)), (1, .int (nI e)), (2, .int (nI g))]) C dX1_worthTo_112 (by decide) rfl ?_
          refine g_iload C dX1_worthTo_114 rfl ?_
          refine g_iconst C dX1_worthTo_116 ic_5 ?_
          refine g_icmp_ne (tgt := 135) C dX1_worthTo_117 rfl (fun c117_6 => ?_) (fun c117_6 => ?_)
          · skip
            have n117_6 : ¬ (a (30 + 4 * e) = 5) := fun q => c117_6 ((nj_eq (a := a (30 + 4 * e)) (b := 5) (by have := hBa (30 + 4 * e); omega) (by have := hBa (30 + 4 * e); omega)).mpr q)
            refine g_iconst C dX1_worthTo_135 ic_0 ?_
            refine g_istore (lv' := [(7, .int 0), (6, .int (nI (a (30 + 4 * e + 2) / 2))), (5, .int 0), (4, .int (nI (a (30 + 4 * e)))), (3, .int (nI (a (30 + 4 * e + 2)))), (0, .ref (wA w b)), (1, .int (nI e)), (2, .int (nI g))]) C dX1_worthTo_136 (by decide) rfl ?_
            refine g_iload C dX1_worthTo_138 rfl ?_
            refine g_if_eq (tgt := 155) C dX1_worthTo_140 rfl (fun c140_7 => ?_) (fun c140_7 => ?_)
            · skip
              refine g_iload C dX1_worthTo_155 rfl ?_
              refine g_iret C r rfl dX1_worthTo_157 ?_
              refine ⟨?_, rfl⟩
              clear r C
              simp only [wJ, wNt, eats]
              repeat first | rw [if_pos (by omega)] | rw [if_neg (by omega)]
              all_goals first | rfl | exact congrArg nI (by omega) | exact congrArg nI (show 0 = _ by omega)
            · exact absurd c140_7 (by decide)
          · skip
            have n117_6 : a (30 + 4 * e) = 5 := (nj_eq (a := a (30 + 4 * e)) (b := 5) (by have := hBa (30 + 4 * e); omega) (by have := hBa (30 + 4 * e); omega)).mp c117_6
            refine g_aload_n C dX1_worthTo_120 rfl rfl ?_
            refine g_get (v := .int (σ b 5)) C fl_X1_36 fs_X1_36 (HB.n0 hb hN) (HB.ou hb _) rfl dX1_worthTo_121 ?_
            refine g_val (y := nI (a 1)) (Hh.d hH) ?_
            refine g_bipush C dX1_worthTo_124 bp_7 ?_
            refine g_iremv (v := nI (a 1 % 7)) C (by decide) (nj_rem (b := 7) (by have := hBa 1; omega) (by omega)) dX1_worthTo_126 ?_
            refine g_iconst C dX1_worthTo_127 ic_5 ?_
            refine g_icmp_lt (tgt := 135) C dX1_worthTo_128 rfl (fun c128_8 => ?_) (fun c128_8 => ?_)
            · skip
              have n128_8 : a 1 % 7 < 5 := (nj_lt (a := a 1 % 7) (b := 5) (by have := hBa 1; omega) (by have := hBa 1; omega)).mp c128_8
              refine g_iconst C dX1_worthTo_135 ic_0 ?_
              refine g_istore (lv' := [(7, .int 0), (6, .int (nI (a (30 + 4 * e + 2) / 2))), (5, .int 0), (4, .int (nI (a (30 + 4 * e)))), (3, .int (nI (a (30 + 4 * e + 2)))), (0, .ref (wA w b)), (1, .int (nI e)), (2, .int (nI g))]) C dX1_worthTo_136 (by decide) rfl ?_
              refine g_iload C dX1_worthTo_138 rfl ?_
              refine g_if_eq (tgt := 155) C dX1_worthTo_140 rfl (fun c140_9 => ?_) (fun c140_9 => ?_)
              · skip
                refine g_iload C dX1_worthTo_155 rfl ?_
                refine g_iret C r rfl dX1_worthTo_157 ?_
                refine ⟨?_, rfl⟩
                clear r C
                simp only [wJ, wNt, eats]
                repeat first | rw [if_pos (by omega)] | rw [if_neg (by omega)]
                all_goals first | rfl | exact congrArg nI (by omega) | exact congrArg nI (show 0 = _ by omega)
              · exact absurd c140_9 (by decide)
            · skip
              have n128_8 : ¬ (a 1 % 7 < 5) := fun q => c128_8 ((nj_lt (a := a 1 % 7) (b := 5) (by have := hBa 1; omega) (by have := hBa 1; omega)).mpr q)
              refine g_iconst C dX1_worthTo_131 ic_1 ?_
              refine g_goto (tgt := 136) C dX1_worthTo_132 rfl ?_
              refine g_istore (lv' := [(7, .int 1), (6, .int (nI (a (30 + 4 * e + 2) / 2))), (5, .int 0), (4, .int (nI (a (30 + 4 * e)))), (3, .int (nI (a (30 + 4 * e + 2)))), (0, .ref (wA w b)), (1, .int (nI e)), (2, .int (nI g))]) C dX1_worthTo_136 (by decide) rfl ?_
              refine g_iload C dX1_worthTo_138 rfl ?_
              refine g_if_eq (tgt := 155) C dX1_worthTo_140 rfl (fun c140_10 => ?_) (fun c140_10 => ?_)
              · exact absurd c140_10 (by decide)
              · skip
                refine g_iload C dX1_worthTo_143 rfl ?_
                refine g_if_le (tgt := 155) C dX1_worthTo_145 rfl (fun c145_11 => ?_) (fun c145_11 => ?_)
                · skip
                  have n145_11 : a (30 + 4 * e + 2) / 2 ≤ 0 := (nj_le (a := a (30 + 4 * e + 2) / 2) (b := 0) (by have := hBa (30 + 4 * e + 2); omega) (by have := hBa (30 + 4 * e + 2); omega)).mp c145_11
                  refine g_iload C dX1_worthTo_155 rfl ?_
                  refine g_iret C r rfl dX1_worthTo_157 ?_
                  refine ⟨?_, rfl⟩
                  clear r C
                  simp only [wJ, wNt, eats]
                  repeat first | rw [if_pos (by omega)] | rw [if_neg (by omega)]
                  all_goals first | rfl | exact congrArg nI (by omega) | exact congrArg nI (show 0 = _ by omega)
                · skip
                  have n145_11 : ¬ (a (30 + 4 * e + 2) / 2 ≤ 0) := fun q => c145_11 ((nj_le (a := a (30 + 4 * e + 2) / 2) (b := 0) (by have := hBa (30 + 4 * e + 2); omega) (by have := hBa (30 + 4 * e + 2); omega)).mpr q)
                  refine g_iload C dX1_worthTo_148 rfl ?_
                  refine g_iconst C dX1_worthTo_150 ic_1 ?_
                  refine g_isubv (v := nI ((a (30 + 4 * e + 2) / 2) - 1)) C (nj_minus (a := a (30 + 4 * e + 2) / 2) (b := 1) (by omega)) dX1_worthTo_151 ?_
                  refine g_goto (tgt := 157) C dX1_worthTo_152 rfl ?_
                  refine g_iret C r rfl dX1_worthTo_157 ?_
                  refine ⟨?_, rfl⟩
                  clear r C
                  simp only [wJ, wNt, eats]
                  repeat first | rw [if_pos (by omega)] | rw [if_neg (by omega)]
                  all_goals first | rfl | exact congrArg nI (by omega) | exact congrArg nI (show 0 = _ by omega)
        · skip
          have n102_5 : g = 0 := (nj_eq (a := g) (b := 0) (by omega) (by omega)).mp c102_5
          refine g_iload_n C dX1_worthTo_105 rfl rfl ?_
          refine g_goto (tgt := 112) C dX1_worthTo_106 rfl ?_
          refine g_istore (lv' := [(6, .int (nI (a (30 + 4 * e + 2)))), (5, .int 0), (4, .int (nI (a (30 + 4 * e)))), (3, .int (nI (a (30 + 4 * e + 2)))), (0, .ref (wA w b)), (1, .int (nI e)), (2, .int (nI g))]) C dX1_worthTo_112 (by decide) rfl ?_
          refine g_iload C dX1_worthTo_114 rfl ?_
          refine g_iconst C dX1_worthTo_116 ic_5 ?_
          refine g_icmp_ne (tgt := 135) C dX1_worthTo_117 rfl (fun c117_12 => ?_) (fun c117_12 => ?_)
          · skip
            have n117_12 : ¬ (a (30 + 4 * e) = 5) := fun q => c117_12 ((nj_eq (a := a (30 + 4 * e)) (b := 5) (by have := hBa (30 + 4 * e); omega) (by have := hBa (30 + 4 * e); omega)).mpr q)
            refine g_iconst C dX1_worthTo_135 ic_0 ?_
            refine g_istore (lv' := [(7, .int 0), (6, .int (nI (a (30 + 4 * e + 2)))), (5, .int 0), (4, .int (nI (a (30 + 4 * e)))), (3, .int (nI (a (30 + 4 * e + 2)))), (0, .ref (wA w b)), (1, .int (nI e)), (2, .int (nI g))]) C dX1_worthTo_136 (by decide) rfl ?_
            refine g_iload C dX1_worthTo_138 rfl ?_
            refine g_if_eq (tgt := 155) C dX1_worthTo_140 rfl (fun c140_13 => ?_) (fun c140_13 => ?_)
            · skip
              refine g_iload C dX1_worthTo_155 rfl ?_
              refine g_iret C r rfl dX1_worthTo_157 ?_
              refine ⟨?_, rfl⟩
              clear r C
              simp only [wJ, wNt, eats]
              repeat first | rw [if_pos (by omega)] | rw [if_neg (by omega)]
              all_goals first | rfl | exact congrArg nI (by omega) | exact congrArg nI (show 0 = _ by omega)
            · exact absurd c140_13 (by decide)
          · skip
            have n117_12 : a (30 + 4 * e) = 5 := (nj_eq (a := a (30 + 4 * e)) (b := 5) (by have := hBa (30 + 4 * e); omega) (by have := hBa (30 + 4 * e); omega)).mp c117_12
            refine g_aload_n C dX1_worthTo_120 rfl rfl ?_
            refine g_get (v := .int (σ b 5)) C fl_X1_36 fs_X1_36 (HB.n0 hb hN) (HB.ou hb _) rfl dX1_worthTo_121 ?_
            refine g_val (y := nI (a 1)) (Hh.d hH) ?_
            refine g_bipush C dX1_worthTo_124 bp_7 ?_
            refine g_iremv (v := nI (a 1 % 7)) C (by decide) (nj_rem (b := 7) (by have := hBa 1; omega) (by omega)) dX1_worthTo_126 ?_
            refine g_iconst C dX1_worthTo_127 ic_5 ?_
            refine g_icmp_lt (tgt := 135) C dX1_worthTo_128 rfl (fun c128_14 => ?_) (fun c128_14 => ?_)
            · skip
              have n128_14 : a 1 % 7 < 5 := (nj_lt (a := a 1 % 7) (b := 5) (by have := hBa 1; omega) (by have := hBa 1; omega)).mp c128_14
              refine g_iconst C dX1_worthTo_135 ic_0 ?_
              refine g_istore (lv' := [(7, .int 0), (6, .int (nI (a (30 + 4 * e + 2)))), (5, .int 0), (4, .int (nI (a (30 + 4 * e)))), (3, .int (nI (a (30 + 4 * e + 2)))), (0, .ref (wA w b)), (1, .int (nI e)), (2, .int (nI g))]) C dX1_worthTo_136 (by decide) rfl ?_
              refine g_iload C dX1_worthTo_138 rfl ?_
              refine g_if_eq (tgt := 155) C dX1_worthTo_140 rfl (fun c140_15 => ?_) (fun c140_15 => ?_)
              · skip
                refine g_iload C dX1_worthTo_155 rfl ?_
                refine g_iret C r rfl dX1_worthTo_157 ?_
                refine ⟨?_, rfl⟩
                clear r C
                simp only [wJ, wNt, eats]
                repeat first | rw [if_pos (by omega)] | rw [if_neg (by omega)]
                all_goals first | rfl | exact congrArg nI (by omega) | exact congrArg nI (show 0 = _ by omega)
              · exact absurd c140_15 (by decide)
            · skip
              have n128_14 : ¬ (a 1 % 7 < 5) := fun q => c128_14 ((nj_lt (a := a 1 % 7) (b := 5) (by have := hBa 1; omega) (by have := hBa 1; omega)).mpr q)
              refine g_iconst C dX1_worthTo_131 ic_1 ?_
              refine g_goto (tgt := 136) C dX1_worthTo_132 rfl ?_
              refine g_istore (lv' := [(7, .int 1), (6, .int (nI (a (30 + 4 * e + 2)))), (5, .int 0), (4, .int (nI (a (30 + 4 * e)))), (3, .int (nI (a (30 + 4 * e + 2)))), (0, .ref (wA w b)), (1, .int (nI e)), (2, .int (nI g))]) C dX1_worthTo_136 (by decide) rfl ?_
              refine g_iload C dX1_worthTo_138 rfl ?_
              refine g_if_eq (tgt := 155) C dX1_worthTo_140 rfl (fun c140_16 => ?_) (fun c140_16 => ?_)
              · exact absurd c140_16 (by decide)
              · skip
                refine g_iload C dX1_worthTo_143 rfl ?_
                refine g_if_le (tgt := 155) C dX1_worthTo_145 rfl (fun c145_17 => ?_) (fun c145_17 => ?_)
                · skip
                  have n145_17 : a (30 + 4 * e + 2) ≤ 0 := (nj_le (a := a (30 + 4 * e + 2)) (b := 0) (by have := hBa (30 + 4 * e + 2); omega) (by have := hBa (30 + 4 * e + 2); omega)).mp c145_17
                  refine g_iload C dX1_worthTo_155 rfl ?_
                  refine g_iret C r rfl dX1_worthTo_157 ?_
                  refine ⟨?_, rfl⟩
                  clear r C
                  simp only [wJ, wNt, eats]
                  repeat first | rw [if_pos (by omega)] | rw [if_neg (by omega)]
                  all_goals first | rfl | exact congrArg nI (by omega) | exact congrArg nI (show 0 = _ by omega)
                · skip
                  have n145_17 : ¬ (a (30 + 4 * e + 2) ≤ 0) := fun q => c145_17 ((nj_le (a := a (30 + 4 * e + 2)) (b := 0) (by have := hBa (30 + 4 * e + 2); omega) (by have := hBa (30 + 4 * e + 2); omega)).mpr q)
                  refine g_iload C dX1_worthTo_148 rfl ?_
                  refine g_iconst C dX1_worthTo_150 ic_1 ?_
                  refine g_isubv (v := nI ((a (30 + 4 * e + 2)) - 1)) C (nj_minus (a := a (30 + 4 * e + 2)) (b := 1) (by omega)) dX1_worthTo_151 ?_
                  refine g_goto (tgt := 157) C dX1_worthTo_152 rfl ?_
                  refine g_iret C r rfl dX1_worthTo_157 ?_
                  refine ⟨?_, rfl⟩
                  clear r C
                  simp only [wJ, wNt, eats]
                  repeat first | rw [if_pos (by omega)] | rw [if_neg (by omega)]
                  all_goals first | rfl | exact congrArg nI (by omega) | exact congrArg nI (show 0 = _ by omega)
      · skip
        have n96_4 : ¬ (g ≤ 1) := fun q => c96_4 ((nj_le (a := g) (b := 1) (by omega) (by omega)).mpr q)
        refine g_iconst C dX1_worthTo_99 ic_m1 ?_
        refine g_iret C r rfl dX1_worthTo_100 ?_
        refine ⟨?_, rfl⟩
        clear r C
        simp only [wJ, wNt, eats]
        repeat first | rw [if_pos (by omega)] | rw [if_neg (by omega)]
        all_goals first | rfl | exact congrArg nI (by omega) | exact congrArg nI (show 0 = _ by omega)
    have ns35_2 : ¬ (a (30 + 4 * e) = 3) := fun q => s35_2 ((nj_eq (a := a (30 + 4 * e)) (b := 3) (by have := hBa (30 + 4 * e); omega) (by have := hBa (30 + 4 * e); omega)).mpr q)
    by_cases s35_3 : nI (a (30 + 4 * e)) = 4
    · skip
      have ns35_3 : a (30 + 4 * e) = 4 := (nj_eq (a := a (30 + 4 * e)) (b := 4) (by have := hBa (30 + 4 * e); omega) (by have := hBa (30 + 4 * e); omega)).mp s35_3
      refine g_tsw (v := 4) (tgt := 92) C dX1_worthTo_35 s35_3 (by decide) (by decide) rfl rfl ?_
      refine g_iconst C dX1_worthTo_92 ic_1 ?_
      refine g_iret C r rfl dX1_worthTo_93 ?_
      refine ⟨?_, rfl⟩
      clear r C
      simp only [wJ, wNt, eats]
      repeat first | rw [if_pos (by omega)] | rw [if_neg (by omega)]
      all_goals first | rfl | exact congrArg nI (by omega) | exact congrArg nI (show 0 = _ by omega)
    have ns35_3 : ¬ (a (30 + 4 * e) = 4) := fun q => s35_3 ((nj_eq (a := a (30 + 4 * e)) (b := 4) (by have := hBa (30 + 4 * e); omega) (by have := hBa (30 + 4 * e); omega)).mpr q)
    by_cases s35_4 : nI (a (30 + 4 * e)) = 5
    · skip
      have ns35_4 : a (30 + 4 * e) = 5 := (nj_eq (a := a (30 + 4 * e)) (b := 5) (by have := hBa (30 + 4 * e); omega) (by have := hBa (30 + 4 * e); omega)).mp s35_4
      refine g_tsw (v := 5) (tgt := 94) C dX1_worthTo_35 s35_4 (by decide) (by decide) rfl rfl ?_
      refine g_iload_n C dX1_worthTo_94 rfl rfl ?_
      refine g_iconst C dX1_worthTo_95 ic_1 ?_
      refine g_icmp_le (tgt := 101) C dX1_worthTo_96 rfl (fun c96_18 => ?_) (fun c96_18 => ?_)
      · skip
        have n96_18 : g ≤ 1 := (nj_le (a := g) (b := 1) (by omega) (by omega)).mp c96_18
        refine g_iload_n C dX1_worthTo_101 rfl rfl ?_
        refine g_if_ne (tgt := 109) C dX1_worthTo_102 rfl (fun c102_19 => ?_) (fun c102_19 => ?_)
        · skip
          have n102_19 : ¬ (g = 0) := fun q => c102_19 ((nj_eq (a := g) (b := 0) (by omega) (by omega)).mpr q)
          refine g_iload_n C dX1_worthTo_109 rfl rfl ?_
          refine g_iconst C dX1_worthTo_110 ic_2 ?_
          refine g_idivv (v := nI (a (30 + 4 * e + 2) / 2)) C (by decide) (nj_div2 (by have := hBa (30 + 4 * e + 2); omega)) dX1_worthTo_111 ?_
          refine g_istore (lv' := [(6, .int (nI (a (30 + 4 * e + 2) / 2))), (5, .int 0), (4, .int (nI (a (30 + 4 * e)))), (3, .int (nI (a (30 + 4 * e + 2)))), (0, .ref (wA w b)), (1, .int (nI e)), (2, .int (nI g))]) C dX1_worthTo_112 (by decide) rfl ?_
          refine g_iload C dX1_worthTo_114 rfl ?_
          refine g_iconst C dX1_worthTo_116 ic_5 ?_
          refine g_icmp_ne (tgt := 135) C dX1_worthTo_117 rfl (fun c117_20 => ?_) (fun c117_20 => ?_)
          · skip
            have n117_20 : ¬ (a (30 + 4 * e) = 5) := fun q => c117_20 ((nj_eq (a := a (30 + 4 * e)) (b := 5) (by have := hBa (30 + 4 * e); omega) (by have := hBa (30 + 4 * e); omega)).mpr q)
            refine g_iconst C dX1_worthTo_135 ic_0 ?_
            refine g_istore (lv' := [(7, .int 0), (6, .int (nI (a (30 + 4 * e + 2) / 2))), (5, .int 0), (4, .int (nI (a (30 + 4 * e)))), (3, .int (nI (a (30 + 4 * e + 2)))), (0, .ref (wA w b)), (1, .int (nI e)), (2, .int (nI g))]) C dX1_worthTo_136 (by decide) rfl ?_
            refine g_iload C dX1_worthTo_138 rfl ?_
            refine g_if_eq (tgt := 155) C dX1_worthTo_140 rfl (fun c140_21 => ?_) (fun c140_21 => ?_)
            · skip
              refine g_iload C dX1_worthTo_155 rfl ?_
              refine g_iret C r rfl dX1_worthTo_157 ?_
              refine ⟨?_, rfl⟩
              clear r C
              simp only [wJ, wNt, eats]
              repeat first | rw [if_pos (by omega)] | rw [if_neg (by omega)]
              all_goals first | rfl | exact congrArg nI (by omega) | exact congrArg nI (show 0 = _ by omega)
            · exact absurd c140_21 (by decide)
          · skip
            have n117_20 : a (30 + 4 * e) = 5 := (nj_eq (a := a (30 + 4 * e)) (b := 5) (by have := hBa (30 + 4 * e); omega) (by have := hBa (30 + 4 * e); omega)).mp c117_20
            refine g_aload_n C dX1_worthTo_120 rfl rfl ?_
            refine g_get (v := .int (σ b 5)) C fl_X1_36 fs_X1_36 (HB.n0 hb hN) (HB.ou hb _) rfl dX1_worthTo_121 ?_
            refine g_val (y := nI (a 1)) (Hh.d hH) ?_
            refine g_bipush C dX1_worthTo_124 bp_7 ?_
            refine g_iremv (v := nI (a 1 % 7)) C (by decide) (nj_rem (b := 7) (by have := hBa 1; omega) (by omega)) dX1_worthTo_126 ?_
            refine g_iconst C dX1_worthTo_127 ic_5 ?_
            refine g_icmp_lt (tgt := 135) C dX1_worthTo_128 rfl (fun c128_22 => ?_) (fun c128_22 => ?_)
            · skip
              have n128_22 : a 1 % 7 < 5 := (nj_lt (a := a 1 % 7) (b := 5) (by have := hBa 1; omega) (by have := hBa 1; omega)).mp c128_22
              refine g_iconst C dX1_worthTo_135 ic_0 ?_
              refine g_istore (lv' := [(7, .int 0), (6, .int (nI (a (30 + 4 * e + 2) / 2))), (5, .int 0), (4, .int (nI (a (30 + 4 * e)))), (3, .int (nI (a (30 + 4 * e + 2)))), (0, .ref (wA w b)), (1, .int (nI e)), (2, .int (nI g))]) C dX1_worthTo_136 (by decide) rfl ?_
              refine g_iload C dX1_worthTo_138 rfl ?_
              refine g_if_eq (tgt := 155) C dX1_worthTo_140 rfl (fun c140_23 => ?_) (fun c140_23 => ?_)
              · skip
                refine g_iload C dX1_worthTo_155 rfl ?_
                refine g_iret C r rfl dX1_worthTo_157 ?_
                refine ⟨?_, rfl⟩
                clear r C
                simp only [wJ, wNt, eats]
                repeat first | rw [if_pos (by omega)] | rw [if_neg (by omega)]
                all_goals first | rfl | exact congrArg nI (by omega) | exact congrArg nI (show 0 = _ by omega)
              · exact absurd c140_23 (by decide)
            · skip
              have n128_22 : ¬ (a 1 % 7 < 5) := fun q => c128_22 ((nj_lt (a := a 1 % 7) (b := 5) (by have := hBa 1; omega) (by have := hBa 1; omega)).mpr q)
              refine g_iconst C dX1_worthTo_131 ic_1 ?_
              refine g_goto (tgt := 136) C dX1_worthTo_132 rfl ?_
              refine g_istore (lv' := [(7, .int 1), (6, .int (nI (a (30 + 4 * e + 2) / 2))), (5, .int 0), (4, .int (nI (a (30 + 4 * e)))), (3, .int (nI (a (30 + 4 * e + 2)))), (0, .ref (wA w b)), (1, .int (nI e)), (2, .int (nI g))]) C dX1_worthTo_136 (by decide) rfl ?_
              refine g_iload C dX1_worthTo_138 rfl ?_
              refine g_if_eq (tgt := 155) C dX1_worthTo_140 rfl (fun c140_24 => ?_) (fun c140_24 => ?_)
              · exact absurd c140_24 (by decide)
              · skip
                refine g_iload C dX1_worthTo_143 rfl ?_
                refine g_if_le (tgt := 155) C dX1_worthTo_145 rfl (fun c145_25 => ?_) (fun c145_25 => ?_)
                · skip
                  have n145_25 : a (30 + 4 * e + 2) / 2 ≤ 0 := (nj_le (a := a (30 + 4 * e + 2) / 2) (b := 0) (by have := hBa (30 + 4 * e + 2); omega) (by have := hBa (30 + 4 * e + 2); omega)).mp c145_25
                  refine g_iload C dX1_worthTo_155 rfl ?_
                  refine g_iret C r rfl dX1_worthTo_157 ?_
                  refine ⟨?_, rfl⟩
                  clear r C
                  simp only [wJ, wNt, eats]
                  repeat first | rw [if_pos (by omega)] | rw [if_neg (by omega)]
                  all_goals first | rfl | exact congrArg nI (by omega) | exact congrArg nI (show 0 = _ by omega)
                · skip
                  have n145_25 : ¬ (a (30 + 4 * e + 2) / 2 ≤ 0) := fun q => c145_25 ((nj_le (a := a (30 + 4 * e + 2) / 2) (b := 0) (by have := hBa (30 + 4 * e + 2); omega) (by have := hBa (30 + 4 * e + 2); omega)).mpr q)
                  refine g_iload C dX1_worthTo_148 rfl ?_
                  refine g_iconst C dX1_worthTo_150 ic_1 ?_
                  refine g_isubv (v := nI ((a (30 + 4 * e + 2) / 2) - 1)) C (nj_minus (a := a (30 + 4 * e + 2) / 2) (b := 1) (by omega)) dX1_worthTo_151 ?_
                  refine g_goto (tgt := 157) C dX1_worthTo_152 rfl ?_
                  refine g_iret C r rfl dX1_worthTo_157 ?_
                  refine ⟨?_, rfl⟩
                  clear r C
                  simp only [wJ, wNt, eats]
                  repeat first | rw [if_pos (by omega)] | rw [if_neg (by omega)]
                  all_goals first | rfl | exact congrArg nI (by omega) | exact congrArg nI (show 0 = _ by omega)
        · skip
          have n102_19 : g = 0 := (nj_eq (a := g) (b := 0) (by omega) (by omega)).mp c102_19
          refine g_iload_n C dX1_worthTo_105 rfl rfl ?_
          refine g_goto (tgt := 112) C dX1_worthTo_106 rfl ?_
          refine g_istore (lv' := [(6, .int (nI (a (30 + 4 * e + 2)))), (5, .int 0), (4, .int (nI (a (30 + 4 * e)))), (3, .int (nI (a (30 + 4 * e + 2)))), (0, .ref (wA w b)), (1, .int (nI e)), (2, .int (nI g))]) C dX1_worthTo_112 (by decide) rfl ?_
          refine g_iload C dX1_worthTo_114 rfl ?_
          refine g_iconst C dX1_worthTo_116 ic_5 ?_
          refine g_icmp_ne (tgt := 135) C dX1_worthTo_117 rfl (fun c117_26 => ?_) (fun c117_26 => ?_)
          · skip
            have n117_26 : ¬ (a (30 + 4 * e) = 5) := fun q => c117_26 ((nj_eq (a := a (30 + 4 * e)) (b := 5) (by have := hBa (30 + 4 * e); omega) (by have := hBa (30 + 4 * e); omega)).mpr q)
            refine g_iconst C dX1_worthTo_135 ic_0 ?_
            refine g_istore (lv' := [(7, .int 0), (6, .int (nI (a (30 + 4 * e + 2)))), (5, .int 0), (4, .int (nI (a (30 + 4 * e)))), (3, .int (nI (a (30 + 4 * e + 2)))), (0, .ref (wA w b)), (1, .int (nI e)), (2, .int (nI g))]) C dX1_worthTo_136 (by decide) rfl ?_
            refine g_iload C dX1_worthTo_138 rfl ?_
            refine g_if_eq (tgt := 155) C dX1_worthTo_140 rfl (fun c140_27 => ?_) (fun c140_27 => ?_)
            · skip
              refine g_iload C dX1_worthTo_155 rfl ?_
              refine g_iret C r rfl dX1_worthTo_157 ?_
              refine ⟨?_, rfl⟩
              clear r C
              simp only [wJ, wNt, eats]
              repeat first | rw [if_pos (by omega)] | rw [if_neg (by omega)]
              all_goals first | rfl | exact congrArg nI (by omega) | exact congrArg nI (show 0 = _ by omega)
            · exact absurd c140_27 (by decide)
          · skip
            have n117_26 : a (30 + 4 * e) = 5 := (nj_eq (a := a (30 + 4 * e)) (b := 5) (by have := hBa (30 + 4 * e); omega) (by have := hBa (30 + 4 * e); omega)).mp c117_26
            refine g_aload_n C dX1_worthTo_120 rfl rfl ?_
            refine g_get (v := .int (σ b 5)) C fl_X1_36 fs_X1_36 (HB.n0 hb hN) (HB.ou hb _) rfl dX1_worthTo_121 ?_
            refine g_val (y := nI (a 1)) (Hh.d hH) ?_
            refine g_bipush C dX1_worthTo_124 bp_7 ?_
            refine g_iremv (v := nI (a 1 % 7)) C (by decide) (nj_rem (b := 7) (by have := hBa 1; omega) (by omega)) dX1_worthTo_126 ?_
            refine g_iconst C dX1_worthTo_127 ic_5 ?_
            refine g_icmp_lt (tgt := 135) C dX1_worthTo_128 rfl (fun c128_28 => ?_) (fun c128_28 => ?_)
            · skip
              have n128_28 : a 1 % 7 < 5 := (nj_lt (a := a 1 % 7) (b := 5) (by have := hBa 1; omega) (by have := hBa 1; omega)).mp c128_28
              refine g_iconst C dX1_worthTo_135 ic_0 ?_
              refine g_istore (lv' := [(7, .int 0), (6, .int (nI (a (30 + 4 * e + 2)))), (5, .int 0), (4, .int (nI (a (30 + 4 * e)))), (3, .int (nI (a (30 + 4 * e + 2)))), (0, .ref (wA w b)), (1, .int (nI e)), (2, .int (nI g))]) C dX1_worthTo_136 (by decide) rfl ?_
              refine g_iload C dX1_worthTo_138 rfl ?_
              refine g_if_eq (tgt := 155) C dX1_worthTo_140 rfl (fun c140_29 => ?_) (fun c140_29 => ?_)
              · skip
                refine g_iload C dX1_worthTo_155 rfl ?_
                refine g_iret C r rfl dX1_worthTo_157 ?_
                refine ⟨?_, rfl⟩
                clear r C
                simp only [wJ, wNt, eats]
                repeat first | rw [if_pos (by omega)] | rw [if_neg (by omega)]
                all_goals first | rfl | exact congrArg nI (by omega) | exact congrArg nI (show 0 = _ by omega)
              · exact absurd c140_29 (by decide)
            · skip
              have n128_28 : ¬ (a 1 % 7 < 5) := fun q => c128_28 ((nj_lt (a := a 1 % 7) (b := 5) (by have := hBa 1; omega) (by have := hBa 1; omega)).mpr q)
              refine g_iconst C dX1_worthTo_131 ic_1 ?_
              refine g_goto (tgt := 136) C dX1_worthTo_132 rfl ?_
              refine g_istore (lv' := [(7, .int 1), (6, .int (nI (a (30 + 4 * e + 2)))), (5, .int 0), (4, .int (nI (a (30 + 4 * e)))), (3, .int (nI (a (30 + 4 * e + 2)))), (0, .ref (wA w b)), (1, .int (nI e)), (2, .int (nI g))]) C dX1_worthTo_136 (by decide) rfl ?_
              refine g_iload C dX1_worthTo_138 rfl ?_
              refine g_if_eq (tgt := 155) C dX1_worthTo_140 rfl (fun c140_30 => ?_) (fun c140_30 => ?_)
              · exact absurd c140_30 (by decide)
              · skip
                refine g_iload C dX1_worthTo_143 rfl ?_
                refine g_if_le (tgt := 155) C dX1_worthTo_145 rfl (fun c145_31 => ?_) (fun c145_31 => ?_)
                · skip
                  have n145_31 : a (30 + 4 * e + 2) ≤ 0 := (nj_le (a := a (30 + 4 * e + 2)) (b := 0) (by have := hBa (30 + 4 * e + 2); omega) (by have := hBa (30 + 4 * e + 2); omega)).mp c145_31
                  refine g_iload C dX1_worthTo_155 rfl ?_
                  refine g_iret C r rfl dX1_worthTo_157 ?_
                  refine ⟨?_, rfl⟩
                  clear r C
                  simp only [wJ, wNt, eats]
                  repeat first | rw [if_pos (by omega)] | rw [if_neg (by omega)]
                  all_goals first | rfl | exact congrArg nI (by omega) | exact congrArg nI (show 0 = _ by omega)
                · skip
                  have n145_31 : ¬ (a (30 + 4 * e + 2) ≤ 0) := fun q => c145_31 ((nj_le (a := a (30 + 4 * e + 2)) (b := 0) (by have := hBa (30 + 4 * e + 2); omega) (by have := hBa (30 + 4 * e + 2); omega)).mpr q)
                  refine g_iload C dX1_worthTo_148 rfl ?_
                  refine g_iconst C dX1_worthTo_150 ic_1 ?_
                  refine g_isubv (v := nI ((a (30 + 4 * e + 2)) - 1)) C (nj_minus (a := a (30 + 4 * e + 2)) (b := 1) (by omega)) dX1_worthTo_151 ?_
                  refine g_goto (tgt := 157) C dX1_worthTo_152 rfl ?_
                  refine g_iret C r rfl dX1_worthTo_157 ?_
                  refine ⟨?_, rfl⟩
                  clear r C
                  simp only [wJ, wNt, eats]
                  repeat first | rw [if_pos (by omega)] | rw [if_neg (by omega)]
                  all_goals first | rfl | exact congrArg nI (by omega) | exact congrArg nI (show 0 = _ by omega)
      · skip
        have n96_18 : ¬ (g ≤ 1) := fun q => c96_18 ((nj_le (a := g) (b := 1) (by omega) (by omega)).mpr q)
        refine g_iconst C dX1_worthTo_99 ic_m1 ?_
        refine g_iret C r rfl dX1_worthTo_100 ?_
        refine ⟨?_, rfl⟩
        clear r C
        simp only [wJ, wNt, eats]
        repeat first | rw [if_pos (by omega)] | rw [if_neg (by omega)]
        all_goals first | rfl | exact congrArg nI (by omega) | exact congrArg nI (show 0 = _ by omega)
    have ns35_4 : ¬ (a (30 + 4 * e) = 5) := fun q => s35_4 ((nj_eq (a := a (30 + 4 * e)) (b := 5) (by have := hBa (30 + 4 * e); omega) (by have := hBa (30 + 4 * e); omega)).mpr q)
    refine g_tswd (tgt := 158) C dX1_worthTo_35 (by have q0 : (nI (a (30 + 4 * e)) : Int32).toInt ≠ 1 := ne_toInt s35_0; have q1 : (nI (a (30 + 4 * e)) : Int32).toInt ≠ 2 := ne_toInt s35_1; have q2 : (nI (a (30 + 4 * e)) : Int32).toInt ≠ 3 := ne_toInt s35_2; have q3 : (nI (a (30 + 4 * e)) : Int32).toInt ≠ 4 := ne_toInt s35_3; have q4 : (nI (a (30 + 4 * e)) : Int32).toInt ≠ 5 := ne_toInt s35_4; omega) rfl ?_
    refine g_iload C dX1_worthTo_158 rfl ?_
    refine g_iret C r rfl dX1_worthTo_160 ?_
    refine ⟨?_, rfl⟩
    clear r C
    simp only [wJ, wNt, eats]
    repeat first | rw [if_pos (by omega)] | rw [if_neg (by omega)]
    all_goals first | rfl | exact congrArg nI (by omega) | exact congrArg nI (show 0 = _ by omega)
  · skip
    have n21_1 : ¬ (a (30 + 4 * e + 2) ≤ g) := fun q => c21_1 ((nj_le (a := a (30 + 4 * e + 2)) (b := g) (by have := hBa (30 + 4 * e + 2); omega) (by have := hBa (30 + 4 * e + 2); omega)).mpr q)
    refine g_iload_n C dX1_worthTo_24 rfl rfl ?_
    refine g_iload_n C dX1_worthTo_25 rfl rfl ?_
    refine g_isubv (v := nI ((a (30 + 4 * e + 2)) - g)) C (nj_minus (a := a (30 + 4 * e + 2)) (b := g) (by omega)) dX1_worthTo_26 ?_
    refine g_goto (tgt := 31) C dX1_worthTo_27 rfl ?_
    refine g_istore (lv' := [(5, .int (nI ((a (30 + 4 * e + 2)) - g))), (4, .int (nI (a (30 + 4 * e)))), (3, .int (nI (a (30 + 4 * e + 2)))), (0, .ref (wA w b)), (1, .int (nI e)), (2, .int (nI g))]) C dX1_worthTo_31 (by decide) rfl ?_
    refine g_iload C dX1_worthTo_33 rfl ?_
    by_cases s35_0 : nI (a (30 + 4 * e)) = 1
    · skip
      have ns35_0 : a (30 + 4 * e) = 1 := (nj_eq (a := a (30 + 4 * e)) (b := 1) (by have := hBa (30 + 4 * e); omega) (by have := hBa (30 + 4 * e); omega)).mp s35_0
      refine g_tsw (v := 1) (tgt := 68) C dX1_worthTo_35 s35_0 (by decide) (by decide) rfl rfl ?_
      refine g_iload_n C dX1_worthTo_68 rfl rfl ?_
      refine g_if_ne (tgt := 76) C dX1_worthTo_69 rfl (fun c69_32 => ?_) (fun c69_32 => ?_)
      · skip
        have n69_32 : ¬ (g = 0) := fun q => c69_32 ((nj_eq (a := g) (b := 0) (by omega) (by omega)).mpr q)
        refine g_iconst C dX1_worthTo_76 ic_m1 ?_
        refine g_iret C r rfl dX1_worthTo_77 ?_
        refine ⟨?_, rfl⟩
        clear r C
        simp only [wJ, wNt, eats]
        repeat first | rw [if_pos (by omega)] | rw [if_neg (by omega)]
        all_goals first | rfl | exact congrArg nI (by omega) | exact congrArg nI (show 0 = _ by omega)
      · skip
        have n69_32 : g = 0 := (nj_eq (a := g) (b := 0) (by omega) (by omega)).mp c69_32
        refine g_iload_n C dX1_worthTo_72 rfl rfl ?_
        refine g_goto (tgt := 77) C dX1_worthTo_73 rfl ?_
        refine g_iret C r rfl dX1_worthTo_77 ?_
        refine ⟨?_, rfl⟩
        clear r C
        simp only [wJ, wNt, eats]
        repeat first | rw [if_pos (by omega)] | rw [if_neg (by omega)]
        all_goals first | rfl | exact congrArg nI (by omega) | exact congrArg nI (show 0 = _ by omega)
    have ns35_0 : ¬ (a (30 + 4 * e) = 1) := fun q => s35_0 ((nj_eq (a := a (30 + 4 * e)) (b := 1) (by have := hBa (30 + 4 * e); omega) (by have := hBa (30 + 4 * e); omega)).mpr q)
    by_cases s35_1 : nI (a (30 + 4 * e)) = 2
    · skip
      have ns35_1 : a (30 + 4 * e) = 2 := (nj_eq (a := a (30 + 4 * e)) (b := 2) (by have := hBa (30 + 4 * e); omega) (by have := hBa (30 + 4 * e); omega)).mp s35_1
      refine g_tsw (v := 2) (tgt := 78) C dX1_worthTo_35 s35_1 (by decide) (by decide) rfl rfl ?_
      refine g_iload_n C dX1_worthTo_78 rfl rfl ?_
      refine g_iconst C dX1_worthTo_79 ic_3 ?_
      refine g_icmp_lt (tgt := 89) C dX1_worthTo_80 rfl (fun c80_33 => ?_) (fun c80_33 => ?_)
      · skip
        have n80_33 : g < 3 := (nj_lt (a := g) (b := 3) (by omega) (by omega)).mp c80_33
        refine g_iload C dX1_worthTo_89 rfl ?_
        refine g_iret C r rfl dX1_worthTo_91 ?_
        refine ⟨?_, rfl⟩
        clear r C
        simp only [wJ, wNt, eats]
        repeat first | rw [if_pos (by omega)] | rw [if_neg (by omega)]
        all_goals first | rfl | exact congrArg nI (by omega) | exact congrArg nI (show 0 = _ by omega)
      · skip
        have n80_33 : ¬ (g < 3) := fun q => c80_33 ((nj_lt (a := g) (b := 3) (by omega) (by omega)).mpr q)
        refine g_iload_n C dX1_worthTo_83 rfl rfl ?_
        refine g_iconst C dX1_worthTo_84 ic_1 ?_
        refine g_iaddv (v := nI ((a (30 + 4 * e + 2)) + 1)) C (nj_plus (a (30 + 4 * e + 2)) 1) dX1_worthTo_85 ?_
        refine g_goto (tgt := 91) C dX1_worthTo_86 rfl ?_
        refine g_iret C r rfl dX1_worthTo_91 ?_
        refine ⟨?_, rfl⟩
        clear r C
        simp only [wJ, wNt, eats]
        repeat first | rw [if_pos (by omega)] | rw [if_neg (by omega)]
        all_goals first | rfl | exact congrArg nI (by omega) | exact congrArg nI (show 0 = _ by omega)
    have ns35_1 : ¬ (a (30 + 4 * e) = 2) := fun q => s35_1 ((nj_eq (a := a (30 + 4 * e)) (b := 2) (by have := hBa (30 + 4 * e); omega) (by have := hBa (30 + 4 * e); omega)).mpr q)
    by_cases s35_2 : nI (a (30 + 4 * e)) = 3
    · skip
      have ns35_2 : a (30 + 4 * e) = 3 := (nj_eq (a := a (30 + 4 * e)) (b := 3) (by have := hBa (30 + 4 * e); omega) (by have := hBa (30 + 4 * e); omega)).mp s35_2
      refine g_tsw (v := 3) (tgt := 94) C dX1_worthTo_35 s35_2 (by decide) (by decide) rfl rfl ?_
      refine g_iload_n C dX1_worthTo_94 rfl rfl ?_
      refine g_iconst C dX1_worthTo_95 ic_1 ?_
      refine g_icmp_le (tgt := 101) C dX1_worthTo_96 rfl (fun c96_34 => ?_) (fun c96_34 => ?_)
      · skip
        have n96_34 : g ≤ 1 := (nj_le (a := g) (b := 1) (by omega) (by omega)).mp c96_34
        refine g_iload_n C dX1_worthTo_101 rfl rfl ?_
        refine g_if_ne (tgt := 109) C dX1_worthTo_102 rfl (fun c102_35 => ?_) (fun c102_35 => ?_)
        · skip
          have n102_35 : ¬ (g = 0) := fun q => c102_35 ((nj_eq (a := g) (b := 0) (by omega) (by omega)).mpr q)
          refine g_iload_n C dX1_worthTo_109 rfl rfl ?_
          refine g_iconst C dX1_worthTo_110 ic_2 ?_
          refine g_idivv (v := nI (a (30 + 4 * e + 2) / 2)) C (by decide) (nj_div2 (by have := hBa (30 + 4 * e + 2); omega)) dX1_worthTo_111 ?_
          refine g_istore (lv' := [(6, .int (nI (a (30 + 4 * e + 2) / 2))), (5, .int (nI ((a (30 + 4 * e + 2)) - g))), (4, .int (nI (a (30 + 4 * e)))), (3, .int (nI (a (30 + 4 * e + 2)))), (0, .ref (wA w b)), (1, .int (nI e)), (2, .int (nI g))]) C dX1_worthTo_112 (by decide) rfl ?_
          refine g_iload C dX1_worthTo_114 rfl ?_
          refine g_iconst C dX1_worthTo_116 ic_5 ?_
          refine g_icmp_ne (tgt := 135) C dX1_worthTo_117 rfl (fun c117_36 => ?_) (fun c117_36 => ?_)
          · skip
            have n117_36 : ¬ (a (30 + 4 * e) = 5) := fun q => c117_36 ((nj_eq (a := a (30 + 4 * e)) (b := 5) (by have := hBa (30 + 4 * e); omega) (by have := hBa (30 + 4 * e); omega)).mpr q)
            refine g_iconst C dX1_worthTo_135 ic_0 ?_
            refine g_istore (lv' := [(7, .int 0), (6, .int (nI (a (30 + 4 * e + 2) / 2))), (5, .int (nI ((a (30 + 4 * e + 2)) - g))), (4, .int (nI (a (30 + 4 * e)))), (3, .int (nI (a (30 + 4 * e + 2)))), (0, .ref (wA w b)), (1, .int (nI e)), (2, .int (nI g))]) C dX1_worthTo_136 (by decide) rfl ?_
            refine g_iload C dX1_worthTo_138 rfl ?_
            refine g_if_eq (tgt := 155) C dX1_worthTo_140 rfl (fun c140_37 => ?_) (fun c140_37 => ?_)
            · skip
              refine g_iload C dX1_worthTo_155 rfl ?_
              refine g_iret C r rfl dX1_worthTo_157 ?_
              refine ⟨?_, rfl⟩
              clear r C
              simp only [wJ, wNt, eats]
              repeat first | rw [if_pos (by omega)] | rw [if_neg (by omega)]
              all_goals first | rfl | exact congrArg nI (by omega) | exact congrArg nI (show 0 = _ by omega)
            · exact absurd c140_37 (by decide)
          · skip
            have n117_36 : a (30 + 4 * e) = 5 := (nj_eq (a := a (30 + 4 * e)) (b := 5) (by have := hBa (30 + 4 * e); omega) (by have := hBa (30 + 4 * e); omega)).mp c117_36
            refine g_aload_n C dX1_worthTo_120 rfl rfl ?_
            refine g_get (v := .int (σ b 5)) C fl_X1_36 fs_X1_36 (HB.n0 hb hN) (HB.ou hb _) rfl dX1_worthTo_121 ?_
            refine g_val (y := nI (a 1)) (Hh.d hH) ?_
            refine g_bipush C dX1_worthTo_124 bp_7 ?_
            refine g_iremv (v := nI (a 1 % 7)) C (by decide) (nj_rem (b := 7) (by have := hBa 1; omega) (by omega)) dX1_worthTo_126 ?_
            refine g_iconst C dX1_worthTo_127 ic_5 ?_
            refine g_icmp_lt (tgt := 135) C dX1_worthTo_128 rfl (fun c128_38 => ?_) (fun c128_38 => ?_)
            · skip
              have n128_38 : a 1 % 7 < 5 := (nj_lt (a := a 1 % 7) (b := 5) (by have := hBa 1; omega) (by have := hBa 1; omega)).mp c128_38
              refine g_iconst C dX1_worthTo_135 ic_0 ?_
              refine g_istore (lv' := [(7, .int 0), (6, .int (nI (a (30 + 4 * e + 2) / 2))), (5, .int (nI ((a (30 + 4 * e + 2)) - g))), (4, .int (nI (a (30 + 4 * e)))), (3, .int (nI (a (30 + 4 * e + 2)))), (0, .ref (wA w b)), (1, .int (nI e)), (2, .int (nI g))]) C dX1_worthTo_136 (by decide) rfl ?_
              refine g_iload C dX1_worthTo_138 rfl ?_
              refine g_if_eq (tgt := 155) C dX1_worthTo_140 rfl (fun c140_39 => ?_) (fun c140_39 => ?_)
              · skip
                refine g_iload C dX1_worthTo_155 rfl ?_
                refine g_iret C r rfl dX1_worthTo_157 ?_
                refine ⟨?_, rfl⟩
                clear r C
                simp only [wJ, wNt, eats]
                repeat first | rw [if_pos (by omega)] | rw [if_neg (by omega)]
                all_goals first | rfl | exact congrArg nI (by omega) | exact congrArg nI (show 0 = _ by omega)
              · exact absurd c140_39 (by decide)
            · skip
              have n128_38 : ¬ (a 1 % 7 < 5) := fun q => c128_38 ((nj_lt (a := a 1 % 7) (b := 5) (by have := hBa 1; omega) (by have := hBa 1; omega)).mpr q)
              refine g_iconst C dX1_worthTo_131 ic_1 ?_
              refine g_goto (tgt := 136) C dX1_worthTo_132 rfl ?_
              refine g_istore (lv' := [(7, .int 1), (6, .int (nI (a (30 + 4 * e + 2) / 2))), (5, .int (nI ((a (30 + 4 * e + 2)) - g))), (4, .int (nI (a (30 + 4 * e)))), (3, .int (nI (a (30 + 4 * e + 2)))), (0, .ref (wA w b)), (1, .int (nI e)), (2, .int (nI g))]) C dX1_worthTo_136 (by decide) rfl ?_
              refine g_iload C dX1_worthTo_138 rfl ?_
              refine g_if_eq (tgt := 155) C dX1_worthTo_140 rfl (fun c140_40 => ?_) (fun c140_40 => ?_)
              · exact absurd c140_40 (by decide)
              · skip
                refine g_iload C dX1_worthTo_143 rfl ?_
                refine g_if_le (tgt := 155) C dX1_worthTo_145 rfl (fun c145_41 => ?_) (fun c145_41 => ?_)
                · skip
                  have n145_41 : a (30 + 4 * e + 2) / 2 ≤ 0 := (nj_le (a := a (30 + 4 * e + 2) / 2) (b := 0) (by have := hBa (30 + 4 * e + 2); omega) (by have := hBa (30 + 4 * e + 2); omega)).mp c145_41
                  refine g_iload C dX1_worthTo_155 rfl ?_
                  refine g_iret C r rfl dX1_worthTo_157 ?_
                  refine ⟨?_, rfl⟩
                  clear r C
                  simp only [wJ, wNt, eats]
                  repeat first | rw [if_pos (by omega)] | rw [if_neg (by omega)]
                  all_goals first | rfl | exact congrArg nI (by omega) | exact congrArg nI (show 0 = _ by omega)
                · skip
                  have n145_41 : ¬ (a (30 + 4 * e + 2) / 2 ≤ 0) := fun q => c145_41 ((nj_le (a := a (30 + 4 * e + 2) / 2) (b := 0) (by have := hBa (30 + 4 * e + 2); omega) (by have := hBa (30 + 4 * e + 2); omega)).mpr q)
                  refine g_iload C dX1_worthTo_148 rfl ?_
                  refine g_iconst C dX1_worthTo_150 ic_1 ?_
                  refine g_isubv (v := nI ((a (30 + 4 * e + 2) / 2) - 1)) C (nj_minus (a := a (30 + 4 * e + 2) / 2) (b := 1) (by omega)) dX1_worthTo_151 ?_
                  refine g_goto (tgt := 157) C dX1_worthTo_152 rfl ?_
                  refine g_iret C r rfl dX1_worthTo_157 ?_
                  refine ⟨?_, rfl⟩
                  clear r C
                  simp only [wJ, wNt, eats]
                  repeat first | rw [if_pos (by omega)] | rw [if_neg (by omega)]
                  all_goals first | rfl | exact congrArg nI (by omega) | exact congrArg nI (show 0 = _ by omega)
        · skip
          have n102_35 : g = 0 := (nj_eq (a := g) (b := 0) (by omega) (by omega)).mp c102_35
          refine g_iload_n C dX1_worthTo_105 rfl rfl ?_
          refine g_goto (tgt := 112) C dX1_worthTo_106 rfl ?_
          refine g_istore (lv' := [(6, .int (nI (a (30 + 4 * e + 2)))), (5, .int (nI ((a (30 + 4 * e + 2)) - g))), (4, .int (nI (a (30 + 4 * e)))), (3, .int (nI (a (30 + 4 * e + 2)))), (0, .ref (wA w b)), (1, .int (nI e)), (2, .int (nI g))]) C dX1_worthTo_112 (by decide) rfl ?_
          refine g_iload C dX1_worthTo_114 rfl ?_
          refine g_iconst C dX1_worthTo_116 ic_5 ?_
          refine g_icmp_ne (tgt := 135) C dX1_worthTo_117 rfl (fun c117_42 => ?_) (fun c117_42 => ?_)
          · skip
            have n117_42 : ¬ (a (30 + 4 * e) = 5) := fun q => c117_42 ((nj_eq (a := a (30 + 4 * e)) (b := 5) (by have := hBa (30 + 4 * e); omega) (by have := hBa (30 + 4 * e); omega)).mpr q)
            refine g_iconst C dX1_worthTo_135 ic_0 ?_
            refine g_istore (lv' := [(7, .int 0), (6, .int (nI (a (30 + 4 * e + 2)))), (5, .int (nI ((a (30 + 4 * e + 2)) - g))), (4, .int (nI (a (30 + 4 * e)))), (3, .int (nI (a (30 + 4 * e + 2)))), (0, .ref (wA w b)), (1, .int (nI e)), (2, .int (nI g))]) C dX1_worthTo_136 (by decide) rfl ?_
            refine g_iload C dX1_worthTo_138 rfl ?_
            refine g_if_eq (tgt := 155) C dX1_worthTo_140 rfl (fun c140_43 => ?_) (fun c140_43 => ?_)
            · skip
              refine g_iload C dX1_worthTo_155 rfl ?_
              refine g_iret C r rfl dX1_worthTo_157 ?_
              refine ⟨?_, rfl⟩
              clear r C
              simp only [wJ, wNt, eats]
              repeat first | rw [if_pos (by omega)] | rw [if_neg (by omega)]
              all_goals first | rfl | exact congrArg nI (by omega) | exact congrArg nI (show 0 = _ by omega)
            · exact absurd c140_43 (by decide)
          · skip
            have n117_42 : a (30 + 4 * e) = 5 := (nj_eq (a := a (30 + 4 * e)) (b := 5) (by have := hBa (30 + 4 * e); omega) (by have := hBa (30 + 4 * e); omega)).mp c117_42
            refine g_aload_n C dX1_worthTo_120 rfl rfl ?_
            refine g_get (v := .int (σ b 5)) C fl_X1_36 fs_X1_36 (HB.n0 hb hN) (HB.ou hb _) rfl dX1_worthTo_121 ?_
            refine g_val (y := nI (a 1)) (Hh.d hH) ?_
            refine g_bipush C dX1_worthTo_124 bp_7 ?_
            refine g_iremv (v := nI (a 1 % 7)) C (by decide) (nj_rem (b := 7) (by have := hBa 1; omega) (by omega)) dX1_worthTo_126 ?_
            refine g_iconst C dX1_worthTo_127 ic_5 ?_
            refine g_icmp_lt (tgt := 135) C dX1_worthTo_128 rfl (fun c128_44 => ?_) (fun c128_44 => ?_)
            · skip
              have n128_44 : a 1 % 7 < 5 := (nj_lt (a := a 1 % 7) (b := 5) (by have := hBa 1; omega) (by have := hBa 1; omega)).mp c128_44
              refine g_iconst C dX1_worthTo_135 ic_0 ?_
              refine g_istore (lv' := [(7, .int 0), (6, .int (nI (a (30 + 4 * e + 2)))), (5, .int (nI ((a (30 + 4 * e + 2)) - g))), (4, .int (nI (a (30 + 4 * e)))), (3, .int (nI (a (30 + 4 * e + 2)))), (0, .ref (wA w b)), (1, .int (nI e)), (2, .int (nI g))]) C dX1_worthTo_136 (by decide) rfl ?_
              refine g_iload C dX1_worthTo_138 rfl ?_
              refine g_if_eq (tgt := 155) C dX1_worthTo_140 rfl (fun c140_45 => ?_) (fun c140_45 => ?_)
              · skip
                refine g_iload C dX1_worthTo_155 rfl ?_
                refine g_iret C r rfl dX1_worthTo_157 ?_
                refine ⟨?_, rfl⟩
                clear r C
                simp only [wJ, wNt, eats]
                repeat first | rw [if_pos (by omega)] | rw [if_neg (by omega)]
                all_goals first | rfl | exact congrArg nI (by omega) | exact congrArg nI (show 0 = _ by omega)
              · exact absurd c140_45 (by decide)
            · skip
              have n128_44 : ¬ (a 1 % 7 < 5) := fun q => c128_44 ((nj_lt (a := a 1 % 7) (b := 5) (by have := hBa 1; omega) (by have := hBa 1; omega)).mpr q)
              refine g_iconst C dX1_worthTo_131 ic_1 ?_
              refine g_goto (tgt := 136) C dX1_worthTo_132 rfl ?_
              refine g_istore (lv' := [(7, .int 1), (6, .int (nI (a (30 + 4 * e + 2)))), (5, .int (nI ((a (30 + 4 * e + 2)) - g))), (4, .int (nI (a (30 + 4 * e)))), (3, .int (nI (a (30 + 4 * e + 2)))), (0, .ref (wA w b)), (1, .int (nI e)), (2, .int (nI g))]) C dX1_worthTo_136 (by decide) rfl ?_
              refine g_iload C dX1_worthTo_138 rfl ?_
              refine g_if_eq (tgt := 155) C dX1_worthTo_140 rfl (fun c140_46 => ?_) (fun c140_46 => ?_)
              · exact absurd c140_46 (by decide)
              · skip
                refine g_iload C dX1_worthTo_143 rfl ?_
                refine g_if_le (tgt := 155) C dX1_worthTo_145 rfl (fun c145_47 => ?_) (fun c145_47 => ?_)
                · skip
                  have n145_47 : a (30 + 4 * e + 2) ≤ 0 := (nj_le (a := a (30 + 4 * e + 2)) (b := 0) (by have := hBa (30 + 4 * e + 2); omega) (by have := hBa (30 + 4 * e + 2); omega)).mp c145_47
                  refine g_iload C dX1_worthTo_155 rfl ?_
                  refine g_iret C r rfl dX1_worthTo_157 ?_
                  refine ⟨?_, rfl⟩
                  clear r C
                  simp only [wJ, wNt, eats]
                  repeat first | rw [if_pos (by omega)] | rw [if_neg (by omega)]
                  all_goals first | rfl | exact congrArg nI (by omega) | exact congrArg nI (show 0 = _ by omega)
                · skip
                  have n145_47 : ¬ (a (30 + 4 * e + 2) ≤ 0) := fun q => c145_47 ((nj_le (a := a (30 + 4 * e + 2)) (b := 0) (by have := hBa (30 + 4 * e + 2); omega) (by have := hBa (30 + 4 * e + 2); omega)).mpr q)
                  refine g_iload C dX1_worthTo_148 rfl ?_
                  refine g_iconst C dX1_worthTo_150 ic_1 ?_
                  refine g_isubv (v := nI ((a (30 + 4 * e + 2)) - 1)) C (nj_minus (a := a (30 + 4 * e + 2)) (b := 1) (by omega)) dX1_worthTo_151 ?_
                  refine g_goto (tgt := 157) C dX1_worthTo_152 rfl ?_
                  refine g_iret C r rfl dX1_worthTo_157 ?_
                  refine ⟨?_, rfl⟩
                  clear r C
                  simp only [wJ, wNt, eats]
                  repeat first | rw [if_pos (by omega)] | rw [if_neg (by omega)]
                  all_goals first | rfl | exact congrArg nI (by omega) | exact congrArg nI (show 0 = _ by omega)
      · skip
        have n96_34 : ¬ (g ≤ 1) := fun q => c96_34 ((nj_le (a := g) (b := 1) (by omega) (by omega)).mpr q)
        refine g_iconst C dX1_worthTo_99 ic_m1 ?_
        refine g_iret C r rfl dX1_worthTo_100 ?_
        refine ⟨?_, rfl⟩
        clear r C
        simp only [wJ, wNt, eats]
        repeat first | rw [if_pos (by omega)] | rw [if_neg (by omega)]
        all_goals first | rfl | exact congrArg nI (by omega) | exact congrArg nI (show 0 = _ by omega)
    have ns35_2 : ¬ (a (30 + 4 * e) = 3) := fun q => s35_2 ((nj_eq (a := a (30 + 4 * e)) (b := 3) (by have := hBa (30 + 4 * e); omega) (by have := hBa (30 + 4 * e); omega)).mpr q)
    by_cases s35_3 : nI (a (30 + 4 * e)) = 4
    · skip
      have ns35_3 : a (30 + 4 * e) = 4 := (nj_eq (a := a (30 + 4 * e)) (b := 4) (by have := hBa (30 + 4 * e); omega) (by have := hBa (30 + 4 * e); omega)).mp s35_3
      refine g_tsw (v := 4) (tgt := 92) C dX1_worthTo_35 s35_3 (by decide) (by decide) rfl rfl ?_
      refine g_iconst C dX1_worthTo_92 ic_1 ?_
      refine g_iret C r rfl dX1_worthTo_93 ?_
      refine ⟨?_, rfl⟩
      clear r C
      simp only [wJ, wNt, eats]
      repeat first | rw [if_pos (by omega)] | rw [if_neg (by omega)]
      all_goals first | rfl | exact congrArg nI (by omega) | exact congrArg nI (show 0 = _ by omega)
    have ns35_3 : ¬ (a (30 + 4 * e) = 4) := fun q => s35_3 ((nj_eq (a := a (30 + 4 * e)) (b := 4) (by have := hBa (30 + 4 * e); omega) (by have := hBa (30 + 4 * e); omega)).mpr q)
    by_cases s35_4 : nI (a (30 + 4 * e)) = 5
    · skip
      have ns35_4 : a (30 + 4 * e) = 5 := (nj_eq (a := a (30 + 4 * e)) (b := 5) (by have := hBa (30 + 4 * e); omega) (by have := hBa (30 + 4 * e); omega)).mp s35_4
      refine g_tsw (v := 5) (tgt := 94) C dX1_worthTo_35 s35_4 (by decide) (by decide) rfl rfl ?_
      refine g_iload_n C dX1_worthTo_94 rfl rfl ?_
      refine g_iconst C dX1_worthTo_95 ic_1 ?_
      refine g_icmp_le (tgt := 101) C dX1_worthTo_96 rfl (fun c96_48 => ?_) (fun c96_48 => ?_)
      · skip
        have n96_48 : g ≤ 1 := (nj_le (a := g) (b := 1) (by omega) (by omega)).mp c96_48
        refine g_iload_n C dX1_worthTo_101 rfl rfl ?_
        refine g_if_ne (tgt := 109) C dX1_worthTo_102 rfl (fun c102_49 => ?_) (fun c102_49 => ?_)
        · skip
          have n102_49 : ¬ (g = 0) := fun q => c102_49 ((nj_eq (a := g) (b := 0) (by omega) (by omega)).mpr q)
          refine g_iload_n C dX1_worthTo_109 rfl rfl ?_
          refine g_iconst C dX1_worthTo_110 ic_2 ?_
          refine g_idivv (v := nI (a (30 + 4 * e + 2) / 2)) C (by decide) (nj_div2 (by have := hBa (30 + 4 * e + 2); omega)) dX1_worthTo_111 ?_
          refine g_istore (lv' := [(6, .int (nI (a (30 + 4 * e + 2) / 2))), (5, .int (nI ((a (30 + 4 * e + 2)) - g))), (4, .int (nI (a (30 + 4 * e)))), (3, .int (nI (a (30 + 4 * e + 2)))), (0, .ref (wA w b)), (1, .int (nI e)), (2, .int (nI g))]) C dX1_worthTo_112 (by decide) rfl ?_
          refine g_iload C dX1_worthTo_114 rfl ?_
          refine g_iconst C dX1_worthTo_116 ic_5 ?_
          refine g_icmp_ne (tgt := 135) C dX1_worthTo_117 rfl (fun c117_50 => ?_) (fun c117_50 => ?_)
          · skip
            have n117_50 : ¬ (a (30 + 4 * e) = 5) := fun q => c117_50 ((nj_eq (a := a (30 + 4 * e)) (b := 5) (by have := hBa (30 + 4 * e); omega) (by have := hBa (30 + 4 * e); omega)).mpr q)
            refine g_iconst C dX1_worthTo_135 ic_0 ?_
            refine g_istore (lv' := [(7, .int 0), (6, .int (nI (a (30 + 4 * e + 2) / 2))), (5, .int (nI ((a (30 + 4 * e + 2)) - g))), (4, .int (nI (a (30 + 4 * e)))), (3, .int (nI (a (30 + 4 * e + 2)))), (0, .ref (wA w b)), (1, .int (nI e)), (2, .int (nI g))]) C dX1_worthTo_136 (by decide) rfl ?_
            refine g_iload C dX1_worthTo_138 rfl ?_
            refine g_if_eq (tgt := 155) C dX1_worthTo_140 rfl (fun c140_51 => ?_) (fun c140_51 => ?_)
            · skip
              refine g_iload C dX1_worthTo_155 rfl ?_
              refine g_iret C r rfl dX1_worthTo_157 ?_
              refine ⟨?_, rfl⟩
              clear r C
              simp only [wJ, wNt, eats]
              repeat first | rw [if_pos (by omega)] | rw [if_neg (by omega)]
              all_goals first | rfl | exact congrArg nI (by omega) | exact congrArg nI (show 0 = _ by omega)
            · exact absurd c140_51 (by decide)
          · skip
            have n117_50 : a (30 + 4 * e) = 5 := (nj_eq (a := a (30 + 4 * e)) (b := 5) (by have := hBa (30 + 4 * e); omega) (by have := hBa (30 + 4 * e); omega)).mp c117_50
            refine g_aload_n C dX1_worthTo_120 rfl rfl ?_
            refine g_get (v := .int (σ b 5)) C fl_X1_36 fs_X1_36 (HB.n0 hb hN) (HB.ou hb _) rfl dX1_worthTo_121 ?_
            refine g_val (y := nI (a 1)) (Hh.d hH) ?_
            refine g_bipush C dX1_worthTo_124 bp_7 ?_
            refine g_iremv (v := nI (a 1 % 7)) C (by decide) (nj_rem (b := 7) (by have := hBa 1; omega) (by omega)) dX1_worthTo_126 ?_
            refine g_iconst C dX1_worthTo_127 ic_5 ?_
            refine g_icmp_lt (tgt := 135) C dX1_worthTo_128 rfl (fun c128_52 => ?_) (fun c128_52 => ?_)
            · skip
              have n128_52 : a 1 % 7 < 5 := (nj_lt (a := a 1 % 7) (b := 5) (by have := hBa 1; omega) (by have := hBa 1; omega)).mp c128_52
              refine g_iconst C dX1_worthTo_135 ic_0 ?_
              refine g_istore (lv' := [(7, .int 0), (6, .int (nI (a (30 + 4 * e + 2) / 2))), (5, .int (nI ((a (30 + 4 * e + 2)) - g))), (4, .int (nI (a (30 + 4 * e)))), (3, .int (nI (a (30 + 4 * e + 2)))), (0, .ref (wA w b)), (1, .int (nI e)), (2, .int (nI g))]) C dX1_worthTo_136 (by decide) rfl ?_
              refine g_iload C dX1_worthTo_138 rfl ?_
              refine g_if_eq (tgt := 155) C dX1_worthTo_140 rfl (fun c140_53 => ?_) (fun c140_53 => ?_)
              · skip
                refine g_iload C dX1_worthTo_155 rfl ?_
                refine g_iret C r rfl dX1_worthTo_157 ?_
                refine ⟨?_, rfl⟩
                clear r C
                simp only [wJ, wNt, eats]
                repeat first | rw [if_pos (by omega)] | rw [if_neg (by omega)]
                all_goals first | rfl | exact congrArg nI (by omega) | exact congrArg nI (show 0 = _ by omega)
              · exact absurd c140_53 (by decide)
            · skip
              have n128_52 : ¬ (a 1 % 7 < 5) := fun q => c128_52 ((nj_lt (a := a 1 % 7) (b := 5) (by have := hBa 1; omega) (by have := hBa 1; omega)).mpr q)
              refine g_iconst C dX1_worthTo_131 ic_1 ?_
              refine g_goto (tgt := 136) C dX1_worthTo_132 rfl ?_
              refine g_istore (lv' := [(7, .int 1), (6, .int (nI (a (30 + 4 * e + 2) / 2))), (5, .int (nI ((a (30 + 4 * e + 2)) - g))), (4, .int (nI (a (30 + 4 * e)))), (3, .int (nI (a (30 + 4 * e + 2)))), (0, .ref (wA w b)), (1, .int (nI e)), (2, .int (nI g))]) C dX1_worthTo_136 (by decide) rfl ?_
              refine g_iload C dX1_worthTo_138 rfl ?_
              refine g_if_eq (tgt := 155) C dX1_worthTo_140 rfl (fun c140_54 => ?_) (fun c140_54 => ?_)
              · exact absurd c140_54 (by decide)
              · skip
                refine g_iload C dX1_worthTo_143 rfl ?_
                refine g_if_le (tgt := 155) C dX1_worthTo_145 rfl (fun c145_55 => ?_) (fun c145_55 => ?_)
                · skip
                  have n145_55 : a (30 + 4 * e + 2) / 2 ≤ 0 := (nj_le (a := a (30 + 4 * e + 2) / 2) (b := 0) (by have := hBa (30 + 4 * e + 2); omega) (by have := hBa (30 + 4 * e + 2); omega)).mp c145_55
                  refine g_iload C dX1_worthTo_155 rfl ?_
                  refine g_iret C r rfl dX1_worthTo_157 ?_
                  refine ⟨?_, rfl⟩
                  clear r C
                  simp only [wJ, wNt, eats]
                  repeat first | rw [if_pos (by omega)] | rw [if_neg (by omega)]
                  all_goals first | rfl | exact congrArg nI (by omega) | exact congrArg nI (show 0 = _ by omega)
                · skip
                  have n145_55 : ¬ (a (30 + 4 * e + 2) / 2 ≤ 0) := fun q => c145_55 ((nj_le (a := a (30 + 4 * e + 2) / 2) (b := 0) (by have := hBa (30 + 4 * e + 2); omega) (by have := hBa (30 + 4 * e + 2); omega)).mpr q)
                  refine g_iload C dX1_worthTo_148 rfl ?_
                  refine g_iconst C dX1_worthTo_150 ic_1 ?_
                  refine g_isubv (v := nI ((a (30 + 4 * e + 2) / 2) - 1)) C (nj_minus (a := a (30 + 4 * e + 2) / 2) (b := 1) (by omega)) dX1_worthTo_151 ?_
                  refine g_goto (tgt := 157) C dX1_worthTo_152 rfl ?_
                  refine g_iret C r rfl dX1_worthTo_157 ?_
                  refine ⟨?_, rfl⟩
                  clear r C
                  simp only [wJ, wNt, eats]
                  repeat first | rw [if_pos (by omega)] | rw [if_neg (by omega)]
                  all_goals first | rfl | exact congrArg nI (by omega) | exact congrArg nI (show 0 = _ by omega)
        · skip
          have n102_49 : g = 0 := (nj_eq (a := g) (b := 0) (by omega) (by omega)).mp c102_49
          refine g_iload_n C dX1_worthTo_105 rfl rfl ?_
          refine g_goto (tgt := 112) C dX1_worthTo_106 rfl ?_
          refine g_istore (lv' := [(6, .int (nI (a (30 + 4 * e + 2)))), (5, .int (nI ((a (30 + 4 * e + 2)) - g))), (4, .int (nI (a (30 + 4 * e)))), (3, .int (nI (a (30 + 4 * e + 2)))), (0, .ref (wA w b)), (1, .int (nI e)), (2, .int (nI g))]) C dX1_worthTo_112 (by decide) rfl ?_
          refine g_iload C dX1_worthTo_114 rfl ?_
          refine g_iconst C dX1_worthTo_116 ic_5 ?_
          refine g_icmp_ne (tgt := 135) C dX1_worthTo_117 rfl (fun c117_56 => ?_) (fun c117_56 => ?_)
          · skip
            have n117_56 : ¬ (a (30 + 4 * e) = 5) := fun q => c117_56 ((nj_eq (a := a (30 + 4 * e)) (b := 5) (by have := hBa (30 + 4 * e); omega) (by have := hBa (30 + 4 * e); omega)).mpr q)
            refine g_iconst C dX1_worthTo_135 ic_0 ?_
            refine g_istore (lv' := [(7, .int 0), (6, .int (nI (a (30 + 4 * e + 2)))), (5, .int (nI ((a (30 + 4 * e + 2)) - g))), (4, .int (nI (a (30 + 4 * e)))), (3, .int (nI (a (30 + 4 * e + 2)))), (0, .ref (wA w b)), (1, .int (nI e)), (2, .int (nI g))]) C dX1_worthTo_136 (by decide) rfl ?_
            refine g_iload C dX1_worthTo_138 rfl ?_
            refine g_if_eq (tgt := 155) C dX1_worthTo_140 rfl (fun c140_57 => ?_) (fun c140_57 => ?_)
            · skip
              refine g_iload C dX1_worthTo_155 rfl ?_
              refine g_iret C r rfl dX1_worthTo_157 ?_
              refine ⟨?_, rfl⟩
              clear r C
              simp only [wJ, wNt, eats]
              repeat first | rw [if_pos (by omega)] | rw [if_neg (by omega)]
              all_goals first | rfl | exact congrArg nI (by omega) | exact congrArg nI (show 0 = _ by omega)
            · exact absurd c140_57 (by decide)
          · skip
            have n117_56 : a (30 + 4 * e) = 5 := (nj_eq (a := a (30 + 4 * e)) (b := 5) (by have := hBa (30 + 4 * e); omega) (by have := hBa (30 + 4 * e); omega)).mp c117_56
            refine g_aload_n C dX1_worthTo_120 rfl rfl ?_
            refine g_get (v := .int (σ b 5)) C fl_X1_36 fs_X1_36 (HB.n0 hb hN) (HB.ou hb _) rfl dX1_worthTo_121 ?_
            refine g_val (y := nI (a 1)) (Hh.d hH) ?_
            refine g_bipush C dX1_worthTo_124 bp_7 ?_
            refine g_iremv (v := nI (a 1 % 7)) C (by decide) (nj_rem (b := 7) (by have := hBa 1; omega) (by omega)) dX1_worthTo_126 ?_
            refine g_iconst C dX1_worthTo_127 ic_5 ?_
            refine g_icmp_lt (tgt := 135) C dX1_worthTo_128 rfl (fun c128_58 => ?_) (fun c128_58 => ?_)
            · skip
              have n128_58 : a 1 % 7 < 5 := (nj_lt (a := a 1 % 7) (b := 5) (by have := hBa 1; omega) (by have := hBa 1; omega)).mp c128_58
              refine g_iconst C dX1_worthTo_135 ic_0 ?_
              refine g_istore (lv' := [(7, .int 0), (6, .int (nI (a (30 + 4 * e + 2)))), (5, .int (nI ((a (30 + 4 * e + 2)) - g))), (4, .int (nI (a (30 + 4 * e)))), (3, .int (nI (a (30 + 4 * e + 2)))), (0, .ref (wA w b)), (1, .int (nI e)), (2, .int (nI g))]) C dX1_worthTo_136 (by decide) rfl ?_
              refine g_iload C dX1_worthTo_138 rfl ?_
              refine g_if_eq (tgt := 155) C dX1_worthTo_140 rfl (fun c140_59 => ?_) (fun c140_59 => ?_)
              · skip
                refine g_iload C dX1_worthTo_155 rfl ?_
                refine g_iret C r rfl dX1_worthTo_157 ?_
                refine ⟨?_, rfl⟩
                clear r C
                simp only [wJ, wNt, eats]
                repeat first | rw [if_pos (by omega)] | rw [if_neg (by omega)]
                all_goals first | rfl | exact congrArg nI (by omega) | exact congrArg nI (show 0 = _ by omega)
              · exact absurd c140_59 (by decide)
            · skip
              have n128_58 : ¬ (a 1 % 7 < 5) := fun q => c128_58 ((nj_lt (a := a 1 % 7) (b := 5) (by have := hBa 1; omega) (by have := hBa 1; omega)).mpr q)
              refine g_iconst C dX1_worthTo_131 ic_1 ?_
              refine g_goto (tgt := 136) C dX1_worthTo_132 rfl ?_
              refine g_istore (lv' := [(7, .int 1), (6, .int (nI (a (30 + 4 * e + 2)))), (5, .int (nI ((a (30 + 4 * e + 2)) - g))), (4, .int (nI (a (30 + 4 * e)))), (3, .int (nI (a (30 + 4 * e + 2)))), (0, .ref (wA w b)), (1, .int (nI e)), (2, .int (nI g))]) C dX1_worthTo_136 (by decide) rfl ?_
              refine g_iload C dX1_worthTo_138 rfl ?_
              refine g_if_eq (tgt := 155) C dX1_worthTo_140 rfl (fun c140_60 => ?_) (fun c140_60 => ?_)
              · exact absurd c140_60 (by decide)
              · skip
                refine g_iload C dX1_worthTo_143 rfl ?_
                refine g_if_le (tgt := 155) C dX1_worthTo_145 rfl (fun c145_61 => ?_) (fun c145_61 => ?_)
                · skip
                  have n145_61 : a (30 + 4 * e + 2) ≤ 0 := (nj_le (a := a (30 + 4 * e + 2)) (b := 0) (by have := hBa (30 + 4 * e + 2); omega) (by have := hBa (30 + 4 * e + 2); omega)).mp c145_61
                  refine g_iload C dX1_worthTo_155 rfl ?_
                  refine g_iret C r rfl dX1_worthTo_157 ?_
                  refine ⟨?_, rfl⟩
                  clear r C
                  simp only [wJ, wNt, eats]
                  repeat first | rw [if_pos (by omega)] | rw [if_neg (by omega)]
                  all_goals first | rfl | exact congrArg nI (by omega) | exact congrArg nI (show 0 = _ by omega)
                · skip
                  have n145_61 : ¬ (a (30 + 4 * e + 2) ≤ 0) := fun q => c145_61 ((nj_le (a := a (30 + 4 * e + 2)) (b := 0) (by have := hBa (30 + 4 * e + 2); omega) (by have := hBa (30 + 4 * e + 2); omega)).mpr q)
                  refine g_iload C dX1_worthTo_148 rfl ?_
                  refine g_iconst C dX1_worthTo_150 ic_1 ?_
                  refine g_isubv (v := nI ((a (30 + 4 * e + 2)) - 1)) C (nj_minus (a := a (30 + 4 * e + 2)) (b := 1) (by omega)) dX1_worthTo_151 ?_
                  refine g_goto (tgt := 157) C dX1_worthTo_152 rfl ?_
                  refine g_iret C r rfl dX1_worthTo_157 ?_
                  refine ⟨?_, rfl⟩
                  clear r C
                  simp only [wJ, wNt, eats]
                  repeat first | rw [if_pos (by omega)] | rw [if_neg (by omega)]
                  all_goals first | rfl | exact congrArg nI (by omega) | exact congrArg nI (show 0 = _ by omega)
      · skip
        have n96_48 : ¬ (g ≤ 1) := fun q => c96_48 ((nj_le (a := g) (b := 1) (by omega) (by omega)).mpr q)
        refine g_iconst C dX1_worthTo_99 ic_m1 ?_
        refine g_iret C r rfl dX1_worthTo_100 ?_
        refine ⟨?_, rfl⟩
        clear r C
        simp only [wJ, wNt, eats]
        repeat first | rw [if_pos (by omega)] | rw [if_neg (by omega)]
        all_goals first | rfl | exact congrArg nI (by omega) | exact congrArg nI (show 0 = _ by omega)
    have ns35_4 : ¬ (a (30 + 4 * e) = 5) := fun q => s35_4 ((nj_eq (a := a (30 + 4 * e)) (b := 5) (by have := hBa (30 + 4 * e); omega) (by have := hBa (30 + 4 * e); omega)).mpr q)
    refine g_tswd (tgt := 158) C dX1_worthTo_35 (by have q0 : (nI (a (30 + 4 * e)) : Int32).toInt ≠ 1 := ne_toInt s35_0; have q1 : (nI (a (30 + 4 * e)) : Int32).toInt ≠ 2 := ne_toInt s35_1; have q2 : (nI (a (30 + 4 * e)) : Int32).toInt ≠ 3 := ne_toInt s35_2; have q3 : (nI (a (30 + 4 * e)) : Int32).toInt ≠ 4 := ne_toInt s35_3; have q4 : (nI (a (30 + 4 * e)) : Int32).toInt ≠ 5 := ne_toInt s35_4; omega) rfl ?_
    refine g_iload C dX1_worthTo_158 rfl ?_
    refine g_iret C r rfl dX1_worthTo_160 ?_
    refine ⟨?_, rfl⟩
    clear r C
    simp only [wJ, wNt, eats]
    repeat first | rw [if_pos (by omega)] | rw [if_neg (by omega)]
    all_goals first | rfl | exact congrArg nI (by omega) | exact congrArg nI (show 0 = _ by omega)
set_option maxRecDepth 100000 in
set_option maxHeartbeats 4000000 in
theorem ct_X1_bring (l : Launch) (w : WD) (hN : 54 ≤ wN w) (σ : SG) (b : Nat) (hb : HB b) (a : Row) (hH : Hh σ b a) (hB : Bd a) (g m : Nat) (hg : g < 5) (hm : m ≤ 60) : CtI l w yX1_bring cX1_bring 4 (some .int) 2 0 0 [.ref (wA w b), .int (nI g), .int (nI m)] σ (fun r τ => r = nI (min m (60 - a (10 + g))) ∧ τ = up σ (b + 1) g (nI (a (10 + g) + min m (60 - a (10 + g))))) := by
  refine CtI.mk (by decide) (Nat.le_of_ble_eq_true rfl) ?_
  intro K C hr h0
  have r := RI.of hr h0
  clear hr h0
  show G l w K 0 [(0, .ref (wA w b)), (1, .int (nI g)), (2, .int (nI m))] [] σ
  obtain ⟨hBa, hB0, hB1, hB2, hB3, hB4, hB5, hB6, hB7, hBs, hBp, hBe⟩ := id hB
  have hg1 := hBs g hg
  refine g_iload_n C dX1_bring_0 rfl rfl ?_
  refine g_bipush C dX1_bring_1 bp_60 ?_
  refine g_aload_n C dX1_bring_3 rfl rfl ?_
  refine g_get (v := .ref (wA w (b + 1))) C fl_X1_9 fs_X1_9 (HB.n0 hb hN) (HB.ou hb _) rfl dX1_bring_4 ?_
  refine g_iload_n C dX1_bring_7 rfl rfl ?_
  refine g_ial (k0 := (b + 1)) (n := 5) C (HB.n hb hN (by decide)) (HB.s hb) (j := g) (ix_n (by omega)) dX1_bring_8 ?_
  refine g_val (y := nI (a (10 + g))) (Hh.s hH (by omega)) ?_
  refine g_isubv (v := nI (60 - (a (10 + g)))) C (nj_minus (a := 60) (b := a (10 + g)) (by omega)) dX1_bring_9 ?_
  refine g_min C ml_X1_53 st_Lib_Math_min ini_Math co_Lib_Math_min (by decide) (Nat.le_of_ble_eq_true rfl) dX1_bring_10 ?_
  refine g_val (y := nI (min m (60 - a (10 + g)))) (nj_min (by omega) (by omega)) ?_
  refine g_istore_n (lv' := [(3, .int (nI (min m (60 - a (10 + g))))), (0, .ref (wA w b)), (1, .int (nI g)), (2, .int (nI m))]) C dX1_bring_13 rfl (by decide) rfl ?_
  refine g_aload_n C dX1_bring_14 rfl rfl ?_
  refine g_get (v := .ref (wA w (b + 1))) C fl_X1_9 fs_X1_9 (HB.n0 hb hN) (HB.ou hb _) rfl dX1_bring_15 ?_
  refine g_iload_n C dX1_bring_18 rfl rfl ?_
  refine g_dup2 C dX1_bring_19 rfl rfl ?_
  refine g_ial (k0 := (b + 1)) (n := 5) C (HB.n hb hN (by decide)) (HB.s hb) (j := g) (ix_n (by omega)) dX1_bring_20 ?_
  refine g_val (y := nI (a (10 + g))) (Hh.s hH (by omega)) ?_
  refine g_iload_n C dX1_bring_21 rfl rfl ?_
  refine g_iaddv (v := nI ((a (10 + g)) + (min m (60 - a (10 + g))))) C (nj_plus (a (10 + g)) (min m (60 - a (10 + g)))) dX1_bring_22 ?_
  refine g_ias (k0 := (b + 1)) (n := 5) C (HB.n hb hN (by decide)) (HB.s hb) (j := g) (ix_n (by omega)) dX1_bring_23 (fun σ_1 hσ_1 => ?_)
  refine g_iload_n C dX1_bring_24 rfl rfl ?_
  refine g_iret C r rfl dX1_bring_25 ?_
  exact ⟨rfl, hσ_1⟩
set_option maxRecDepth 100000 in
set_option maxHeartbeats 4000000 in
theorem ct_X1_loseOldest (l : Launch) (w : WD) (hN : 54 ≤ wN w) (σ : SG) (b : Nat) (hb : HB b) (a0 : Row) (hH : Hh σ b a0) (hB : Bd a0) (k : Nat) (hk : k ≤ 100) : CtV l w yX1_loseOldest cX1_loseOldest 5 2 0 0 [.ref (wA w b), .int (nI k)] σ (fun τ => Hh τ b (losS a0 k 5).1 ∧ Fr (fun k => k = b + 1) σ τ) := by
  refine CtV.mk (by decide) (Nat.le_of_ble_eq_true rfl) ?_
  intro K C hr h0
  have r := RV.of hr h0
  clear hr h0
  show G l w K 0 [(0, .ref (wA w b)), (1, .int (nI k))] [] σ
  obtain ⟨hBa0, hB0, hB1, hB2, hB3, hB4, hB5, hB6, hB7, hBs, hBp, hBe⟩ := id hB
  refine g_iload_n C dX1_loseOldest_0 rfl rfl ?_
  refine g_istore_n (lv' := [(2, .int (nI k)), (0, .ref (wA w b)), (1, .int (nI k))]) C dX1_loseOldest_1 rfl (by decide) rfl ?_
  refine g_iconst C dX1_loseOldest_2 ic_4 ?_
  refine g_istore_n (lv' := [(3, .int 4), (2, .int (nI k)), (0, .ref (wA w b)), (1, .int (nI k))]) C dX1_loseOldest_3 rfl (by decide) rfl ?_
  have L4 : ∀ (m4 : Nat) (q : Nat) (a : Row) (t : Nat) (x : Int32) (σ1 : SG), m4 = q → (q ≤ 5) → (x = nI q - 1) → (losS a0 k (5 - q) = (a, t)) → (t ≤ 100) → (∀ j, a j ≤ 30000) → (Hh σ1 b a) → (Fr (fun k => k = b + 1) σ σ1) → G l w K 4 [(0, .ref (wA w b)), (2, .int (nI t)), (3, .int x)] [] σ1 := by
    intro m4
    induction m4 using Nat.strongRecOn with
    | ind m4 ih4 =>
    intro q a t x σ1 em4 hq hx hl ht hBa hH1 hF
    refine g_iload_n C dX1_loseOldest_4 rfl rfl ?_
    refine g_if_lt (tgt := 42) C dX1_loseOldest_5 rfl (fun c5_1 => ?_) (fun c5_1 => ?_)
    · skip
      obtain rfl : q = 0 := nj_pred0 hx c5_1 (by omega)
      refine g_vret C r dX1_loseOldest_42 ?_
      have hl5 : losS a0 k 5 = (a, t) := hl
      rw [hl5]
      exact ⟨hH1, hF⟩
    · skip
      obtain ⟨g, rfl, rfl⟩ : ∃ g, q = g + 1 ∧ x = nI g := nj_pred hx c5_1 (by omega)
      refine g_iload_n C dX1_loseOldest_8 rfl rfl ?_
      refine g_aload_n C dX1_loseOldest_9 rfl rfl ?_
      refine g_get (v := .ref (wA w (b + 1))) C fl_X1_9 fs_X1_9 (HB.n0 hb hN) (HB.ou hb _) rfl dX1_loseOldest_10 ?_
      refine g_iload_n C dX1_loseOldest_13 rfl rfl ?_
      refine g_ial (k0 := (b + 1)) (n := 5) C (HB.n hb hN (by decide)) (HB.s hb) (j := g) (ix_n (by omega)) dX1_loseOldest_14 ?_
      refine g_val (y := nI (a (10 + g))) (Hh.s hH1 (by omega)) ?_
      refine g_min C ml_X1_53 st_Lib_Math_min ini_Math co_Lib_Math_min (by decide) (Nat.le_of_ble_eq_true rfl) dX1_loseOldest_15 ?_
      refine g_val (y := nI (min t (a (10 + g)))) (nj_min (by omega) (by have := hBa (10 + g); omega)) ?_
      refine g_istore (lv' := [(4, .int (nI (min t (a (10 + g))))), (0, .ref (wA w b)), (2, .int (nI t)), (3, .int (nI g))]) C dX1_loseOldest_18 (by decide) rfl ?_
      refine g_aload_n C dX1_loseOldest_20 rfl rfl ?_
      refine g_get (v := .ref (wA w (b + 1))) C fl_X1_9 fs_X1_9 (HB.n0 hb hN) (HB.ou hb _) rfl dX1_loseOldest_21 ?_
      refine g_iload_n C dX1_loseOldest_24 rfl rfl ?_
      refine g_dup2 C dX1_loseOldest_25 rfl rfl ?_
      refine g_ial (k0 := (b + 1)) (n := 5) C (HB.n hb hN (by decide)) (HB.s hb) (j := g) (ix_n (by omega)) dX1_loseOldest_26 ?_
      refine g_val (y := nI (a (10 + g))) (Hh.s hH1 (by omega)) ?_
      refine g_iload C dX1_loseOldest_27 rfl ?_
      refine g_isubv (v := nI ((a (10 + g)) - (min t (a (10 + g))))) C (nj_minus (a := a (10 + g)) (b := min t (a (10 + g))) (by omega)) dX1_loseOldest_29 ?_
      refine g_ias (k0 := (b + 1)) (n := 5) C (HB.n hb hN (by decide)) (HB.s hb) (j := g) (ix_n (by omega)) dX1_loseOldest_30 (fun σ1n hσ1n => ?_)
      refine g_iload_n C dX1_loseOldest_31 rfl rfl ?_
      refine g_iload C dX1_loseOldest_32 rfl ?_
      refine g_isubv (v := nI (t - (min t (a (10 + g))))) C (nj_minus (a := t) (b := min t (a (10 + g))) (by omega)) dX1_loseOldest_34 ?_
      refine g_istore_n (lv' := [(2, .int (nI (t - (min t (a (10 + g)))))), (4, .int (nI (min t (a (10 + g))))), (0, .ref (wA w b)), (3, .int (nI g))]) C dX1_loseOldest_35 rfl (by decide) rfl ?_
      refine g_iinc (v := nI g - 1) (lv' := [(3, .int (nI g - 1)), (2, .int (nI (t - (min t (a (10 + g)))))), (4, .int (nI (min t (a (10 + g))))), (0, .ref (wA w b))]) C dX1_loseOldest_36 (by decide) rfl (nj_decr _) rfl ?_
      refine g_goto (tgt := 4) C dX1_loseOldest_39 rfl ?_
      exact g_lvp [3, 1, 0] rfl (ih4 (g) (by omega) g (ua a (10 + g) (a (10 + g) - min t (a (10 + g)))) (t - (min t (a (10 + g)))) (nI g - 1) σ1n rfl (by first | omega | assumption | rfl | grind) (by rfl) (losS_step hl (by omega)) (by omega) (fun j => by have := hBa j; have := hBa (10 + g); simp only [ua_at]; split <;> omega) (by subst hσ1n; exact hH1.us (by omega)) (by subst hσ1n; exact hF.tr (Fr.up (S := fun k => k = b + 1) rfl) (fun _ h => h)))
  exact g_lvp [2, 1, 0] rfl (L4 (5) 5 a0 k 4 σ rfl (by first | omega | assumption | rfl | grind) (by decide) (by rfl) (by first | omega | assumption | rfl | grind) (hBa0) (by first | omega | assumption | rfl | grind) (Fr.rf))
end
section
/-! ===== a DAY ===== -/
def eatS (e : Nat) : Nat → Row → Row × List Nat
  | 0, a => (a, [])
  | n + 1, a => match nxC a e with
    | none => (a, [])
    | some g => ((eatS e n (ua a (10 + g) (a (10 + g) - 1))).1, g :: (eatS e n (ua a (10 + g) (a (10 + g) - 1))).2)
/-- rows that differ in SLICES alone -/
def SmE (a a' : Row) : Prop := ∀ j, (j < 10 ∨ 15 ≤ j) → a' j = a j
theorem SmE.rf {a : Row} : SmE a a := fun _ _ => rfl
theorem SmE.tr {a b c : Row} (h : SmE a b) (h' : SmE b c) : SmE a c := fun j hj => (h' j hj).trans (h j hj)
theorem SmE.ua {a : Row} {g v : Nat} (hg : g < 5) : SmE a (ua a (10 + g) v) := fun j hj => by simp only [ua_at]; rw [if_neg (by omega)]
theorem sm_wNt {a a' : Row} (h : SmE a a') (e g : Nat) : wNt a' e g = wNt a e g := by
  unfold wNt
  rw [h (30 + 4 * e) (by omega), h (30 + 4 * e + 2) (by omega), h 1 (by omega)]
theorem sm_eats {a a' : Row} (h : SmE a a') (e g : Nat) : eats a' e g ↔ eats a e g := by
  show (_ ∨ _) ↔ (_ ∨ _)
  rw [h (30 + 4 * e) (by omega)]
theorem sm_way {a a' : Row} (h : SmE a a') : way a' = way a := by
  unfold way
  rw [h 7 (by omega), h 1 (by omega)]
theorem pkC_congr {a a' : Row} (h : SmE a a') (e : Nat) (hr : ∀ g, g < 5 → (reachC a' g ↔ reachC a g)) : ∀ m, pkC a' e m = pkC a e m := by
  intro m
  induction m with
  | zero => rfl
  | succ m ih =>
    have h1 := hr (4 - m) (by omega)
    have h2 := sm_eats h e (4 - m)
    by_cases q : reachC a (4 - m) ∧ eats a e (4 - m)
    · rw [pkC, pkC, if_pos q, if_pos ⟨h1.mpr q.1, h2.mpr q.2⟩, ih, sm_way h]
      cases pkC a e m with
      | none => rfl
      | some f => simp only [sm_wNt h]
    · rw [pkC, pkC, if_neg q, if_neg (fun z => q ⟨h1.mp z.1, h2.mp z.2⟩), ih]
theorem pkC_spec {a : Row} {e : Nat} : ∀ m g, m ≤ 5 → pkC a e m = some g → 5 ≤ g + m ∧ g < 5 ∧ reachC a g ∧ eats a e g := by
  intro m
  induction m with
  | zero => intro g _ h; cases h
  | succ m ih =>
    intro g hm h
    rw [pkC] at h
    by_cases q : reachC a (4 - m) ∧ eats a e (4 - m)
    · rw [if_pos q] at h
      cases hp : pkC a e m with
      | none =>
        rw [hp] at h
        cases h
        exact ⟨by omega, by omega, q.1, q.2⟩
      | some f =>
        rw [hp] at h
        dsimp only at h
        by_cases z : way a = 1 ∨ (way a = 2 ∧ wNt a e f < wNt a e (4 - m))
        · rw [if_pos z] at h
          cases h
          exact ⟨by omega, by omega, q.1, q.2⟩
        · rw [if_neg z] at h
          have hfg := Option.some.inj h
          subst hfg
          have := ih f (by omega) hp
          exact ⟨by omega, this.2⟩
    · rw [if_neg q] at h
      have := ih g (by omega) h
      exact ⟨by omega, this.2⟩
theorem nxC_spec {a : Row} {e g : Nat} (h : nxC a e = some g) : g < 5 ∧ reachC a g ∧ eats a e g := (pkC_spec 5 g (Nat.le_refl 5) h).2
theorem pkC_none {a : Row} {e : Nat} : ∀ m, m ≤ 5 → pkC a e m = none → ∀ g, g < 5 → 5 ≤ g + m → ¬ (reachC a g ∧ eats a e g) := by
  intro m
  induction m with
  | zero => intro _ _ g h1 h2; omega
  | succ m ih =>
    intro hm h g h1 h2
    rw [pkC] at h
    by_cases q : reachC a (4 - m) ∧ eats a e (4 - m)
    · rw [if_pos q] at h
      cases hp : pkC a e m with
      | none => rw [hp] at h; cases h
      | some f =>
        rw [hp] at h
        dsimp only at h
        by_cases z : way a = 1 ∨ (way a = 2 ∧ wNt a e f < wNt a e (4 - m))
        · rw [if_pos z] at h; cases h
        · rw [if_neg z] at h; cases h
    · rw [if_neg q] at h
      by_cases z : g = 4 - m
      · rw [z]; exact q
      · exact ih (by omega) h g h1 (by omega)
theorem pkC_none' {a : Row} {e : Nat} (h : ∀ g, g < 5 → ¬ (reachC a g ∧ eats a e g)) : ∀ m, m ≤ 5 → pkC a e m = none := by
  intro m
  induction m with
  | zero => intro _; rfl
  | succ m ih => intro hm; rw [pkC, if_neg (h (4 - m) (by omega))]; exact ih (by omega)
/-- how many of an AGE may be taken -/
def inR (a : Row) (g : Nat) : Nat := if g = 0 ∧ (a 7 = 3 ∨ a 7 = 5) then a (10 + g) - 3 else a (10 + g)
theorem reachC_inR (a : Row) (g : Nat) : reachC a g ↔ 0 < inR a g := by
  unfold reachC inR
  split <;> omega
theorem inR_le (a : Row) (g : Nat) : inR a g ≤ a (10 + g) := by unfold inR; split <;> omega
theorem inR_ua {a : Row} {g m : Nat} (hg : g < 5) (hm : m ≤ inR a g) : ∀ g', g' < 5 → inR (ua a (10 + g) (a (10 + g) - m)) g' = if g' = g then inR a g - m else inR a g' := by
  intro g' h'
  have h7 : ua a (10 + g) (a (10 + g) - m) 7 = a 7 := by simp only [ua_at]; rw [if_neg (by omega)]
  have hx := inR_le a g
  unfold inR at *
  rw [h7]
  simp only [ua_at]
  by_cases q : g' = g
  · subst q
    rw [if_pos rfl, if_pos rfl]
    split <;> rename_i z
    · rw [if_pos z] at hm; omega
    · rfl
  · have e1 : ¬ (10 + g' = 10 + g) := by omega
    rw [if_neg e1, if_neg q]
theorem inR_Rj {a : Row} {g : Nat} (hB : a (10 + g) ≤ 30000) (h : reachC a g) : inRj a g = nI (inR a g) := by
  rw [reachC_inR] at h
  unfold inRj
  unfold inR at h ⊢
  split <;> rename_i z
  · rw [if_pos z] at h; exact nj_minus (a := a (10 + g)) (b := 3) (by omega)
  · rfl
/-- taking m of an AGE at once is taking them one by one -/
theorem eatS_bulk {e g : Nat} : ∀ (m : Nat) (a : Row) (n : Nat), nxC a e = some g → m ≤ inR a g → m ≤ n → eatS e n a = ((eatS e (n - m) (ua a (10 + g) (a (10 + g) - m))).1, List.replicate m g ++ (eatS e (n - m) (ua a (10 + g) (a (10 + g) - m))).2) := by
  intro m
  induction m with
  | zero =>
    intro a n _ _ _
    have h1 : ua a (10 + g) (a (10 + g) - 0) = a := by funext j; simp only [ua_at]; split <;> simp_all
    rw [h1]
    simp
  | succ m ih =>
    intro a n hn hm hmn
    obtain ⟨hg, hr, he⟩ := nxC_spec hn
    obtain ⟨n, rfl⟩ : ∃ k, n = k + 1 := ⟨n - 1, by omega⟩
    have hi := inR_ua (a := a) (m := 1) hg (by omega)
    rw [eatS, hn]
    dsimp only
    have hle := inR_le a g
    by_cases hm0 : m = 0
    · subst hm0
      simp
    · have hS : SmE a (ua a (10 + g) (a (10 + g) - 1)) := SmE.ua hg
      have hnx : nxC (ua a (10 + g) (a (10 + g) - 1)) e = some g := by
        unfold nxC at hn ⊢
        rw [pkC_congr hS e, hn]
        intro g' h'
        rw [reachC_inR, reachC_inR, hi g' h']
        split <;> rename_i z
        · subst z; omega
        · exact Iff.rfl
      have h2 := ih (ua a (10 + g) (a (10 + g) - 1)) n hnx (by rw [hi g hg, if_pos rfl]; omega) (by omega)
      have h3 : ua (ua a (10 + g) (a (10 + g) - 1)) (10 + g) ((ua a (10 + g) (a (10 + g) - 1)) (10 + g) - m) = ua a (10 + g) (a (10 + g) - (m + 1)) := by
        funext j
        simp only [ua_at]
        split
        · simp; omega
        · rfl
      rw [h3] at h2
      have h4 : n + 1 - (m + 1) = n - m := by omega
      rw [h2, h4, List.replicate_succ]
      rfl
/-- how many AGES are in reach and eaten -/
def avC (a : Row) (e : Nat) : Nat → Nat
  | 0 => 0
  | g + 1 => avC a e g + if reachC a g ∧ eats a e g then 1 else 0
theorem avC_le (a : Row) (e n : Nat) : avC a e n ≤ n := by
  induction n with
  | zero => exact Nat.le_refl 0
  | succ n ih => rw [avC]; split <;> omega
theorem avC_zero {a : Row} {e : Nat} : ∀ n, avC a e n = 0 → ∀ g, g < n → ¬ (reachC a g ∧ eats a e g) := by
  intro n
  induction n with
  | zero => intro _ g h; omega
  | succ n ih =>
    intro h g hg
    rw [avC] at h
    by_cases q : reachC a n ∧ eats a e n
    · rw [if_pos q] at h; omega
    · rw [if_neg q] at h
      by_cases z : g = n
      · rw [z]; exact q
      · exact ih (by omega) g (by omega)
theorem avC_less {a a' : Row} {e g : Nat} (hS : SmE a a') (hg : reachC a g ∧ eats a e g) (hg' : ¬ reachC a' g) (ho : ∀ g', g' < 5 → g' ≠ g → (reachC a' g' ↔ reachC a g')) : ∀ n, n ≤ 5 → avC a' e n + (if g < n then 1 else 0) = avC a e n := by
  intro n
  induction n with
  | zero => intro _; simp [avC]
  | succ n ih =>
    intro hn
    have h1 := ih (by omega)
    rw [avC, avC]
    by_cases q : g = n
    · subst q
      rw [if_neg (fun z : reachC a' g ∧ eats a' e g => hg' z.1), if_pos hg, if_pos (by omega)]
      rw [if_neg (by omega)] at h1
      omega
    · have h2 : (reachC a' n ∧ eats a' e n) ↔ (reachC a n ∧ eats a e n) := and_congr (ho n (by omega) (fun z => q z.symm)) (sm_eats hS e n)
      by_cases z : reachC a n ∧ eats a e n
      · rw [if_pos z, if_pos (h2.mpr z)]
        split at h1 <;> split <;> omega
      · rw [if_neg z, if_neg (fun y => z (h2.mp y))]
        split at h1 <;> split <;> omega
theorem eatS_none {a : Row} {e : Nat} (h : nxC a e = none) (n : Nat) : eatS e n a = (a, []) := by
  cases n with
  | zero => rfl
  | succ n => rw [eatS, h]
theorem nxC_av {a : Row} {e : Nat} (h : avC a e 5 = 0) : nxC a e = none := pkC_none' (avC_zero 5 h) 5 (Nat.le_refl 5)
def wsum (a : Row) (e : Nat) : List Nat → Int32
  | [] => 0
  | g :: t => nI (wNt a e g) + wsum a e t
theorem wsum_app (a : Row) (e : Nat) (l l' : List Nat) : wsum a e (l ++ l') = wsum a e l + wsum a e l' := by
  induction l with
  | nil => simp [wsum]
  | cons g t ih => simp only [List.cons_append, wsum, ih]; grind
theorem wsum_rep (a : Row) (e g m : Nat) : wsum a e (List.replicate m g) = nI m * nI (wNt a e g) := by
  induction m with
  | zero => show (0 : Int32) = nI 0 * _; rw [nI_0]; grind
  | succ m ih => rw [List.replicate_succ, wsum, ih, ← nj_plus m 1]; show _ = (nI m + 1) * _; grind
theorem sm_wsum {a a' : Row} (h : SmE a a') (e : Nat) (l : List Nat) : wsum a' e l = wsum a e l := by
  induction l with
  | nil => rfl
  | cons g t ih => show nI (wNt a' e g) + _ = nI (wNt a e g) + _; rw [sm_wNt h, ih]
def wan (a : Row) (hu : Nat) : Nat := if a 7 = 5 then hu - 1 else hu
theorem eatS_len (e : Nat) : ∀ n a, (eatS e n a).2.length ≤ n := by
  intro n
  induction n with
  | zero => intro a; simp [eatS]
  | succ n ih =>
    intro a
    rw [eatS]
    cases nxC a e with
    | none => simp
    | some g => simp only [List.length_cons]; have := ih (ua a (10 + g) (a (10 + g) - 1)); omega
theorem eatS_sm (e : Nat) : ∀ n a, SmE a (eatS e n a).1 ∧ ∀ j, (eatS e n a).1 j ≤ a j := by
  intro n
  induction n with
  | zero => intro a; exact ⟨SmE.rf, fun _ => Nat.le_refl _⟩
  | succ n ih =>
    intro a
    rw [eatS]
    cases h : nxC a e with
    | none => exact ⟨SmE.rf, fun _ => Nat.le_refl _⟩
    | some g =>
      have hg := (nxC_spec h).1
      obtain ⟨h1, h2⟩ := ih (ua a (10 + g) (a (10 + g) - 1))
      refine ⟨(SmE.ua hg).tr h1, fun j => Nat.le_trans (h2 j) ?_⟩
      simp only [ua_at]; split <;> rename_i z
      · rw [z]; omega
      · exact Nat.le_refl _
theorem Bd.sm {a a' : Row} (h : Bd a) (hs : SmE a a') (hl : ∀ j, a' j ≤ a j) : Bd a' := by
  obtain ⟨h0, h1⟩ := h
  refine ⟨fun j => Nat.le_trans (hl j) (h0 j), ?_⟩
  obtain ⟨b0, b1, b2, b3, b4, b5, b6, b7, bs, bp, be⟩ := h1
  refine ⟨by have := hl 0; omega, by have := hl 1; omega, by have := hl 2; omega, by have := hl 3; omega, by have := hl 4; omega, by have := hl 5; omega, by have := hl 6; omega, by have := hl 7; omega, fun k hk => Nat.le_trans (hl _) (bs k hk), fun k hk => Nat.le_trans (hl _) (bp k hk), fun e he => ?_⟩
  obtain ⟨e1, e2, e3, e4⟩ := be e he
  exact ⟨Nat.le_trans (hl _) e1, Nat.le_trans (hl _) e2, Nat.le_trans (hl _) e3, Nat.le_trans (hl _) e4⟩
/-! the tally: VALUE, the AGES eaten in their order, THROWN, LACKED, BOUGHT -/
def Tl (σ : SG) (v : Int32) (ls : List Nat) (th la bo : Nat) : Prop := σ 29 0 = v ∧ σ 29 1 = nI ls.length ∧ σ 29 2 = nI (ls.count 0) ∧ σ 29 3 = nI th ∧ σ 29 4 = nI la ∧ σ 29 5 = nI bo ∧ σ 28 2 = nI (min 20 ls.length) ∧ ∀ i, i < 20 → i < ls.length → σ 30 i = nI (ls.getD i 0)
abbrev inT : Nat → Prop := fun k => 28 ≤ k ∧ k ≤ 30
theorem Tl.fr {σ τ : SG} {v : Int32} {ls : List Nat} {th la bo : Nat} (h : Tl σ v ls th la bo) (h8 : τ 28 = σ 28) (h9 : τ 29 = σ 29) (h30 : τ 30 = σ 30) : Tl τ v ls th la bo := by
  unfold Tl
  rw [h8, h9, h30]
  exact h
end
section
def obW (a : Row) (e : Nat) (o : Option Nat) : Int32 := match o with
  | none => -1
  | some f => nI (wNt a e f)
theorem pk_step {a : Row} {e g : Nat} (hg : g < 5) : pkC a e (5 - g) = if reachC a g ∧ eats a e g then (match pkC a e (5 - (g + 1)) with
    | none => some g
    | some f => if way a = 1 ∨ (way a = 2 ∧ wNt a e f < wNt a e g) then some g else some f) else pkC a e (5 - (g + 1)) := by
  have e1 : 5 - g = (5 - (g + 1)) + 1 := by omega
  have e2 : 4 - (5 - (g + 1)) = g := by omega
  rw [e1, pkC, e2]
  rfl
theorem pk_skip {a : Row} {e g : Nat} (hg : g < 5) (h : ¬ (reachC a g ∧ eats a e g)) : pkC a e (5 - g) = pkC a e (5 - (g + 1)) := by rw [pk_step hg, if_neg h]
theorem pk_take0 {a : Row} {e g : Nat} (hg : g < 5) (h : reachC a g) (h' : eats a e g) (ho : pkC a e (5 - (g + 1)) = none) : pkC a e (5 - g) = some g := by rw [pk_step hg, if_pos ⟨h, h'⟩, ho]
theorem pk_take {a : Row} {e g f : Nat} (hg : g < 5) (h : reachC a g) (h' : eats a e g) (ho : pkC a e (5 - (g + 1)) = some f) (hw : way a = 1 ∨ (way a = 2 ∧ wNt a e f < wNt a e g)) : pkC a e (5 - g) = some g := by rw [pk_step hg, if_pos ⟨h, h'⟩, ho]; exact if_pos hw
theorem pk_keep {a : Row} {e g f : Nat} (hg : g < 5) (h : reachC a g) (h' : eats a e g) (ho : pkC a e (5 - (g + 1)) = some f) (hw : ¬ (way a = 1 ∨ (way a = 2 ∧ wNt a e f < wNt a e g))) : pkC a e (5 - g) = some f := by rw [pk_step hg, if_pos ⟨h, h'⟩, ho]; exact if_neg hw
theorem inRj_pos {a : Row} {g : Nat} (hB : a (10 + g) ≤ 30000) : 0 < inRj a g ↔ reachC a g := by
  unfold inRj reachC
  split
  · rw [Int32.lt_iff_toInt_lt]
    by_cases h : 3 ≤ a (10 + g)
    · rw [show nI (a (10 + g)) - 3 = nI (a (10 + g) - 3) from nj_minus (a := a (10 + g)) (b := 3) h, nj_toInt (by omega), Int32.toInt_zero]; omega
    · have : a (10 + g) = 0 ∨ a (10 + g) = 1 ∨ a (10 + g) = 2 := by omega
      rcases this with h | h | h <;> rw [h] <;> decide
  · exact nj_lt (a := 0) (b := a (10 + g)) (by omega) (by omega)
theorem wNt_le {a : Row} (hB : ∀ j, a j ≤ 30000) (e g : Nat) : wNt a e g ≤ 30001 := by
  have := hB (30 + 4 * e + 2)
  unfold wNt
  repeat' split
  all_goals omega
theorem nj_ne_m1 {n : Nat} (h : n < 2 ^ 31) : ¬ nI n = -1 := fun q => by
  have h1 := congrArg Int32.toInt q
  rw [nj_toInt h, show (-1 : Int32).toInt = -1 by decide] at h1
  omega
theorem wJ_eats {a : Row} {e g : Nat} (h : ¬ wJ a e g = -1) : eats a e g := Decidable.byContradiction fun q => h (if_neg q)
theorem wJ_neats {a : Row} (hB : ∀ j, a j ≤ 30000) {e g : Nat} (h : wJ a e g = -1) : ¬ eats a e g := fun q => by
  rw [wJ, if_pos q] at h
  exact nj_ne_m1 (by have := wNt_le hB e g; omega) h
theorem nj_nn {n : Nat} (h : n < 2 ^ 31) : ¬ nI n < 0 := fun q => by
  have := (nj_lt (a := n) (b := 0) h (by omega)).mp q
  omega
theorem oJ_neg {o : Option Nat} {y : Int32} (hy : y = oJ o (-1)) (h : y < 0) (hb : ∀ g, o = some g → g < 5) : o = none := by
  cases o with
  | none => rfl
  | some g => exact absurd (hy ▸ h) (nj_nn (by have := hb g rfl; omega))
theorem oJ_pos {o : Option Nat} {y : Int32} (hy : y = oJ o (-1)) (h : ¬ y < 0) : ∃ g, o = some g ∧ y = nI g := by
  cases o with
  | none => exact absurd (by rw [hy]; decide) h
  | some g => exact ⟨g, rfl, hy⟩
/-! how much is wanted, as the class reckons it -/
def WX (x : Int32) (n : Nat) : Prop := (∀ k, k < 1000 → (x ≤ nI k ↔ n ≤ k)) ∧ ∀ k, k < n → x - nI k = nI (n - k)
theorem WX_n {n : Nat} (h : n < 1000) : WX (nI n) n := ⟨fun k hk => nj_le (by omega) (by omega), fun k hk => nj_minus (by omega)⟩
theorem WX_m {n : Nat} (h : n < 1000) : WX (nI n - 1) (n - 1) := by
  cases n with
  | zero =>
    refine ⟨fun k hk => ⟨fun _ => Nat.zero_le k, fun _ => ?_⟩, fun k hk => absurd hk (Nat.not_lt_zero k)⟩
    rw [Int32.le_iff_toInt_le, nj_toInt (by omega), show (nI 0 - 1).toInt = -1 by decide]; omega
  | succ n =>
    have e : nI (n + 1) - 1 = nI n := nj_minus (a := n + 1) (b := 1) (by omega)
    rw [e]
    exact WX_n (by omega)
theorem feed_exit {a a1 : Row} {e W : Nat} {l1 : List Nat} (hE : eatS e W a = ((eatS e (W - l1.length) a1).1, l1 ++ (eatS e (W - l1.length) a1).2)) (h : W ≤ l1.length ∨ nxC a1 e = none) : eatS e W a = (a1, l1) := by
  have h1 : eatS e (W - l1.length) a1 = (a1, []) := by
    rcases h with h | h
    · rw [show W - l1.length = 0 by omega]; rfl
    · exact eatS_none h _
  rw [hE, h1]; simp
theorem feed_step {a a1 : Row} {e W g m : Nat} {l1 : List Nat} (hE : eatS e W a = ((eatS e (W - l1.length) a1).1, l1 ++ (eatS e (W - l1.length) a1).2)) (hg : nxC a1 e = some g) (hm : m = min (W - l1.length) (inR a1 g)) : eatS e W a = ((eatS e (W - (l1 ++ List.replicate m g).length) (ua a1 (10 + g) (a1 (10 + g) - m))).1, (l1 ++ List.replicate m g) ++ (eatS e (W - (l1 ++ List.replicate m g).length) (ua a1 (10 + g) (a1 (10 + g) - m))).2) := by
  rw [hE, eatS_bulk m a1 (W - l1.length) hg (by omega) (by omega)]
  have e1 : W - (l1 ++ List.replicate m g).length = W - l1.length - m := by rw [List.length_append, List.length_replicate]; omega
  rw [e1, List.append_assoc]
theorem feed_av {a1 : Row} {e W g m t : Nat} {l1 : List Nat} (hg : nxC a1 e = some g) (hm : m = min (W - l1.length) (inR a1 g)) (hlt : l1.length < W) (hav : W ≤ l1.length ∨ avC a1 e 5 + t ≤ 5) : W ≤ (l1 ++ List.replicate m g).length ∨ avC (ua a1 (10 + g) (a1 (10 + g) - m)) e 5 + (t + 1) ≤ 5 := by
  obtain ⟨h5, hr, he⟩ := nxC_spec hg
  have hr' := (reachC_inR a1 g).mp hr
  rw [List.length_append, List.length_replicate]
  by_cases q : W - l1.length ≤ inR a1 g
  · exact Or.inl (by omega)
  · right
    have hi := inR_ua (a := a1) (m := m) h5 (by omega)
    have h := avC_less (e := e) (g := g) (SmE.ua (a := a1) (v := a1 (10 + g) - m) h5) ⟨hr, he⟩ (by rw [reachC_inR, hi g h5, if_pos rfl]; omega) (fun g' h' hne => by rw [reachC_inR, reachC_inR, hi g' h', if_neg hne]) 5 (Nat.le_refl 5)
    rw [if_pos h5] at h
    omega
/-! the tally's rows -/
theorem Tl.lack {σ : SG} {v : Int32} {ls : List Nat} {th la bo : Nat} (h : Tl σ v ls th la bo) (k : Nat) (p : Int32) : Tl (up (up σ 29 4 (σ 29 4 + nI k)) 29 0 (σ 29 0 - nI k * p)) (v - nI k * p) ls th (la + k) bo := by
  obtain ⟨h0, h1, h2, h3, h4, h5, h6, h7⟩ := h
  refine ⟨?_, ?_, ?_, ?_, ?_, ?_, ?_, fun i hi hl => ?_⟩ <;> simp only [up_at] <;> simp
  all_goals first | assumption | (rw [h0]) | (rw [h4, nj_plus]) | exact h7 i hi hl
theorem Tl.thrown {σ : SG} {v : Int32} {ls : List Nat} {th la bo : Nat} (h : Tl σ v ls th la bo) (k : Nat) (p : Int32) : Tl (up (up σ 29 3 (σ 29 3 + nI k)) 29 0 (σ 29 0 - nI k * p)) (v - nI k * p) ls (th + k) la bo := by
  obtain ⟨h0, h1, h2, h3, h4, h5, h6, h7⟩ := h
  refine ⟨?_, ?_, ?_, ?_, ?_, ?_, ?_, fun i hi hl => ?_⟩ <;> simp only [up_at] <;> simp
  all_goals first | assumption | (rw [h0]) | (rw [h3, nj_plus]) | exact h7 i hi hl
theorem Tl.bought {σ : SG} {v : Int32} {ls : List Nat} {th la bo : Nat} (h : Tl σ v ls th la bo) (k : Nat) (p : Int32) : Tl (up (up σ 29 5 (σ 29 5 + nI k)) 29 0 (σ 29 0 - nI k * p)) (v - nI k * p) ls th la (bo + k) := by
  obtain ⟨h0, h1, h2, h3, h4, h5, h6, h7⟩ := h
  refine ⟨?_, ?_, ?_, ?_, ?_, ?_, ?_, fun i hi hl => ?_⟩ <;> simp only [up_at] <;> simp
  all_goals first | assumption | (rw [h0]) | (rw [h5, nj_plus]) | exact h7 i hi hl
theorem fr_tal {σ : SG} {j : Nat} {x y : Int32} : Fr inT σ (up (up σ 29 j x) 29 0 y) := (Fr.up (S := inT) ⟨by decide, by decide⟩).tr (Fr.up (S := inT) ⟨by decide, by decide⟩) (fun _ h => h)
theorem getD_app_l {l l' : List Nat} {i : Nat} (h : i < l.length) : (l ++ l').getD i 0 = l.getD i 0 := by
  rw [List.getD_eq_getElem?_getD, List.getD_eq_getElem?_getD, List.getElem?_append_left h]
theorem getD_app_r {l l' : List Nat} {i : Nat} (h : l.length ≤ i) : (l ++ l').getD i 0 = l'.getD (i - l.length) 0 := by
  rw [List.getD_eq_getElem?_getD, List.getD_eq_getElem?_getD, List.getElem?_append_right h]
theorem addE_row {σ σ1 σ2 : SG} {ls : List Nat} {m g k : Nat} (h1 : σ1 = up σ 30 (min 20 (ls.length + k)) (nI g)) (h2 : σ2 = up σ1 28 2 (nI (min 20 (ls.length + k) + 1))) (hA : ∀ i, i < 20 → i < ls.length + k → σ 30 i = nI ((ls ++ List.replicate m g).getD i 0)) (hk : k < m) (hl : ls.length + k < 20) : ∀ i, i < 20 → i < ls.length + (k + 1) → σ2 30 i = nI ((ls ++ List.replicate m g).getD i 0) := by
  intro i hi h
  rw [h2, up_other (by decide), h1, up_at]
  by_cases q : i = ls.length + k
  · rw [if_pos ⟨rfl, by omega⟩]
    congr 1
    rw [getD_app_r (by omega), q, List.getD_eq_getElem?_getD, List.getElem?_replicate, if_pos (by omega)]
    rfl
  · rw [if_neg (by omega)]
    exact hA i hi (by omega)
theorem addE_fin {σ : SG} {v : Int32} {ls : List Nat} {th la bo m g k : Nat} (h : σ 29 0 = v ∧ σ 29 1 = nI (ls.length + m) ∧ σ 29 2 = nI ((ls ++ List.replicate m g).count 0) ∧ σ 29 3 = nI th ∧ σ 29 4 = nI la ∧ σ 29 5 = nI bo) (hC : σ 28 2 = nI (min 20 (ls.length + k))) (hA : ∀ i, i < 20 → i < ls.length + k → σ 30 i = nI ((ls ++ List.replicate m g).getD i 0)) (hk : k = m ∨ (20 ≤ ls.length + k ∧ k ≤ m)) : Tl σ v (ls ++ List.replicate m g) th la bo := by
  obtain ⟨h0, h1, h2, h3, h4, h5⟩ := h
  have hl : (ls ++ List.replicate m g).length = ls.length + m := by simp
  refine ⟨h0, by rw [hl]; exact h1, h2, h3, h4, h5, ?_, fun i hi h => ?_⟩
  · rw [hC, hl]; congr 1; omega
  · rw [hl] at h; exact hA i hi (by omega)
end
section
set_option maxRecDepth 100000 in
set_option maxHeartbeats 4000000 in
theorem ct_X1_nextAge (l : Launch) (w : WD) (hN : 54 ≤ wN w) (σ : SG) (b : Nat) (hb : HB b) (a : Row) (hH : Hh σ b a) (hB : Bd a) (e : Nat) (he : e < 4) : CtI l w yX1_nextAge cX1_nextAge 7 (some .int) 2 0 0 [.ref (wA w b), .int (nI e)] σ (fun r τ => r = oJ (nxC a e) (-1) ∧ τ = σ) := by
  refine CtI.mk (by decide) (Nat.le_of_ble_eq_true rfl) ?_
  intro K C hr h0
  have r := RI.of hr h0
  clear hr h0
  show G l w K 0 [(0, .ref (wA w b)), (1, .int (nI e))] [] σ
  obtain ⟨hBa, hB0, hB1, hB2, hB3, hB4, hB5, hB6, hB7, hBs, hBp, hBe⟩ := id hB
  refine g_aload_n C dX1_nextAge_0 rfl rfl ?_
  refine g_get (v := .ref (wA w (b + 3))) C fl_X1_18 fs_X1_18 (HB.n0 hb hN) (HB.ou hb _) rfl dX1_nextAge_1 ?_
  refine g_iconst C dX1_nextAge_4 ic_5 ?_
  refine g_ial (k0 := (b + 3)) (n := 6) C (HB.n hb hN (by decide)) (HB.t hb) (j := 5) (by unfold ix; decide) dX1_nextAge_5 ?_
  refine g_val (y := nI (a 7)) (Hh.t hH (by omega)) ?_
  refine g_istore_n (lv' := [(2, .int (nI (a 7))), (0, .ref (wA w b)), (1, .int (nI e))]) C dX1_nextAge_6 rfl (by decide) rfl ?_
  have L27 : ∀ (wy : Nat), (wy = way a) → (wy ≤ 5) → G l w K 27 [(0, .ref (wA w b)), (1, .int (nI e)), (2, .int (nI wy))] [] σ := by
    intro wy hw hw9
    refine g_iconst C dX1_nextAge_27 ic_m1 ?_
    refine g_istore_n (lv' := [(3, .int ((-1))), (0, .ref (wA w b)), (1, .int (nI e)), (2, .int (nI wy))]) C dX1_nextAge_28 rfl (by decide) rfl ?_
    refine g_iconst C dX1_nextAge_29 ic_m1 ?_
    refine g_istore (lv' := [(4, .int ((-1))), (3, .int ((-1))), (0, .ref (wA w b)), (1, .int (nI e)), (2, .int (nI wy))]) C dX1_nextAge_30 (by decide) rfl ?_
    refine g_iconst C dX1_nextAge_32 ic_4 ?_
    refine g_istore (lv' := [(5, .int 4), (4, .int ((-1))), (3, .int ((-1))), (0, .ref (wA w b)), (1, .int (nI e)), (2, .int (nI wy))]) C dX1_nextAge_33 (by decide) rfl ?_
    have L35 : ∀ (m35 : Nat) (q : Nat) (x : Int32) (y : Int32) (z : Int32), m35 = q → (q ≤ 5) → (x = nI q - 1) → (y = oJ (pkC a e (5 - q)) (-1)) → (z = obW a e (pkC a e (5 - q))) → G l w K 35 [(0, .ref (wA w b)), (1, .int (nI e)), (2, .int (nI wy)), (3, .int y), (4, .int z), (5, .int x)] [] σ := by
      intro m35
      induction m35 using Nat.strongRecOn with
      | ind m35 ih35 =>
      intro q x y z em35 hq hx hy hz
      refine g_iload C dX1_nextAge_35 rfl ?_
      refine g_if_lt (tgt := 104) C dX1_nextAge_37 rfl (fun c37_1 => ?_) (fun c37_1 => ?_)
      · skip
        obtain rfl : q = 0 := nj_pred0 hx c37_1 (by omega)
        refine g_iload_n C dX1_nextAge_104 rfl rfl ?_
        refine g_iret C r rfl dX1_nextAge_105 ?_
        exact ⟨hy, rfl⟩
      · skip
        obtain ⟨g, rfl, rfl⟩ : ∃ g, q = g + 1 ∧ x = nI g := nj_pred hx c37_1 (by omega)
        have hg5 : g < 5 := by omega
        have hg9 := hBa (10 + g)
        have L98 : ∀ (y1 : Int32) (z1 : Int32), (y1 = oJ (pkC a e (5 - g)) (-1)) → (z1 = obW a e (pkC a e (5 - g))) → G l w K 98 [(0, .ref (wA w b)), (1, .int (nI e)), (2, .int (nI wy)), (3, .int y1), (4, .int z1), (5, .int (nI g))] [] σ := by
          intro y1 z1 hy1 hz1
          refine g_iinc (v := nI g - 1) (lv' := [(5, .int (nI g - 1)), (0, .ref (wA w b)), (1, .int (nI e)), (2, .int (nI wy)), (3, .int y1), (4, .int z1)]) C dX1_nextAge_98 (by decide) rfl (nj_decr _) rfl ?_
          refine g_goto (tgt := 35) C dX1_nextAge_101 rfl ?_
          exact g_lvp [1, 2, 3, 4, 5, 0] rfl (ih35 (g) (by omega) g (nI g - 1) y1 z1 rfl (by first | omega | assumption | rfl | grind) (rfl) (hy1) (hz1))
        refine g_aload_n C dX1_nextAge_40 rfl rfl ?_
        refine g_iload C dX1_nextAge_41 rfl ?_
        refine g_pVI (rest := []) (v := inRj a g) C mv_X1_83 (ct_X1_inReach l w hN σ b hb a hH hB g (by omega)) (HB.n0 hb hN) (HB.ou hb _) rfl (by decide) rfl (Nat.le_of_ble_eq_true rfl) dX1_nextAge_43 ?_
        refine g_if_gt (tgt := 52) C dX1_nextAge_46 rfl (fun c46_2 => ?_) (fun c46_2 => ?_)
        · skip
          have hr : reachC a g := (inRj_pos hg9).mp c46_2
          refine g_aload_n C dX1_nextAge_52 rfl rfl ?_
          refine g_iload_n C dX1_nextAge_53 rfl rfl ?_
          refine g_iload C dX1_nextAge_54 rfl ?_
          refine g_pVI (rest := []) (v := wJ a e g) C mv_X1_86 (ct_X1_worthTo l w hN σ b hb a hH hB e g (by omega) (by omega)) (HB.n0 hb hN) (HB.ou hb _) rfl (by decide) rfl (Nat.le_of_ble_eq_true rfl) dX1_nextAge_56 ?_
          refine g_istore (lv' := [(6, .int (wJ a e g)), (0, .ref (wA w b)), (1, .int (nI e)), (2, .int (nI wy)), (3, .int y), (4, .int z), (5, .int (nI g))]) C dX1_nextAge_59 (by decide) rfl ?_
          refine g_iload C dX1_nextAge_61 rfl ?_
          refine g_iconst C dX1_nextAge_63 ic_m1 ?_
          refine g_icmp_ne (tgt := 70) C dX1_nextAge_64 rfl (fun c64_3 => ?_) (fun c64_3 => ?_)
          · skip
            have he1 : eats a e g := wJ_eats c64_3
            have hwj : wJ a e g = nI (wNt a e g) := if_pos he1
            refine g_iload_n C dX1_nextAge_70 rfl rfl ?_
            refine g_if_lt (tgt := 91) C dX1_nextAge_71 rfl (fun c71_4 => ?_) (fun c71_4 => ?_)
            · skip
              have ho : pkC a e (5 - (g + 1)) = none := oJ_neg hy c71_4 (fun g1 h1 => (pkC_spec _ g1 (by omega) h1).2.1)
              have hp := pk_take0 hg5 hr he1 ho
              refine g_iload C dX1_nextAge_91 rfl ?_
              refine g_istore_n (lv' := [(3, .int (nI g)), (6, .int (wJ a e g)), (0, .ref (wA w b)), (1, .int (nI e)), (2, .int (nI wy)), (4, .int z), (5, .int (nI g))]) C dX1_nextAge_93 rfl (by decide) rfl ?_
              refine g_iload C dX1_nextAge_94 rfl ?_
              refine g_istore (lv' := [(4, .int (wJ a e g)), (3, .int (nI g)), (6, .int (wJ a e g)), (0, .ref (wA w b)), (1, .int (nI e)), (2, .int (nI wy)), (5, .int (nI g))]) C dX1_nextAge_96 (by decide) rfl ?_
              exact g_lvp [3, 4, 5, 1, 0, 6] rfl (L98 (nI g) (wJ a e g) (by rw [hp]; rfl) (by rw [hp]; exact hwj))
            · skip
              obtain ⟨f, hf, hyf⟩ := oJ_pos hy c71_4
              refine g_iload_n C dX1_nextAge_74 rfl rfl ?_
              refine g_iconst C dX1_nextAge_75 ic_1 ?_
              refine g_icmp_eq (tgt := 91) C dX1_nextAge_76 rfl (fun c76_5 => ?_) (fun c76_5 => ?_)
              · skip
                have n76_5 : wy = 1 := (nj_eq (a := wy) (b := 1) (by omega) (by omega)).mp c76_5
                have hp := pk_take hg5 hr he1 hf (Or.inl (by omega))
                refine g_iload C dX1_nextAge_91 rfl ?_
                refine g_istore_n (lv' := [(3, .int (nI g)), (6, .int (wJ a e g)), (0, .ref (wA w b)), (1, .int (nI e)), (2, .int (nI wy)), (4, .int z), (5, .int (nI g))]) C dX1_nextAge_93 rfl (by decide) rfl ?_
                refine g_iload C dX1_nextAge_94 rfl ?_
                refine g_istore (lv' := [(4, .int (wJ a e g)), (3, .int (nI g)), (6, .int (wJ a e g)), (0, .ref (wA w b)), (1, .int (nI e)), (2, .int (nI wy)), (5, .int (nI g))]) C dX1_nextAge_96 (by decide) rfl ?_
                exact g_lvp [3, 4, 5, 1, 0, 6] rfl (L98 (nI g) (wJ a e g) (by rw [hp]; rfl) (by rw [hp]; exact hwj))
              · skip
                have n76_5 : ¬ (wy = 1) := fun q => c76_5 ((nj_eq (a := wy) (b := 1) (by omega) (by omega)).mpr q)
                refine g_iload_n C dX1_nextAge_79 rfl rfl ?_
                refine g_iconst C dX1_nextAge_80 ic_2 ?_
                refine g_icmp_ne (tgt := 98) C dX1_nextAge_81 rfl (fun c81_6 => ?_) (fun c81_6 => ?_)
                · skip
                  have n81_6 : ¬ (wy = 2) := fun q => c81_6 ((nj_eq (a := wy) (b := 2) (by omega) (by omega)).mpr q)
                  have hp := pk_keep hg5 hr he1 hf (by omega)
                  exact g_lvp [1, 2, 3, 4, 5, 6] rfl (L98 y z (by rw [hp, hyf]; rfl) (by rw [hp, hz, hf]))
                · skip
                  have n81_6 : wy = 2 := (nj_eq (a := wy) (b := 2) (by omega) (by omega)).mp c81_6
                  refine g_iload C dX1_nextAge_84 rfl ?_
                  refine g_iload C dX1_nextAge_86 rfl ?_
                  refine g_icmp_le (tgt := 98) C dX1_nextAge_88 rfl (fun c88_7 => ?_) (fun c88_7 => ?_)
                  · skip
                    have hw1 : wNt a e g ≤ wNt a e f := (nj_le (by have := wNt_le hBa e g; omega) (by have := wNt_le hBa e f; omega)).mp (by rw [← hwj]; rw [hz, hf] at c88_7; exact c88_7)
                    have hp := pk_keep hg5 hr he1 hf (by omega)
                    exact g_lvp [1, 2, 3, 4, 5, 6] rfl (L98 y z (by rw [hp, hyf]; rfl) (by rw [hp, hz, hf]))
                  · skip
                    have hw1 : ¬ wNt a e g ≤ wNt a e f := fun q => c88_7 (by rw [hwj, hz, hf]; exact (nj_le (by have := wNt_le hBa e g; omega) (by have := wNt_le hBa e f; omega)).mpr q)
                    have hp := pk_take hg5 hr he1 hf (Or.inr ⟨by omega, by omega⟩)
                    refine g_iload C dX1_nextAge_91 rfl ?_
                    refine g_istore_n (lv' := [(3, .int (nI g)), (6, .int (wJ a e g)), (0, .ref (wA w b)), (1, .int (nI e)), (2, .int (nI wy)), (4, .int z), (5, .int (nI g))]) C dX1_nextAge_93 rfl (by decide) rfl ?_
                    refine g_iload C dX1_nextAge_94 rfl ?_
                    refine g_istore (lv' := [(4, .int (wJ a e g)), (3, .int (nI g)), (6, .int (wJ a e g)), (0, .ref (wA w b)), (1, .int (nI e)), (2, .int (nI wy)), (5, .int (nI g))]) C dX1_nextAge_96 (by decide) rfl ?_
                    exact g_lvp [3, 4, 5, 1, 0, 6] rfl (L98 (nI g) (wJ a e g) (by rw [hp]; rfl) (by rw [hp]; exact hwj))
          · skip
            have he1 : ¬ eats a e g := wJ_neats hBa c64_3
            refine g_goto (tgt := 98) C dX1_nextAge_67 rfl ?_
            exact g_lvp [1, 2, 3, 4, 5, 6] rfl (L98 y z (by rw [pk_skip hg5 (fun q => he1 q.2)]; exact hy) (by rw [pk_skip hg5 (fun q => he1 q.2)]; exact hz))
        · skip
          have hr : ¬ reachC a g := fun q => c46_2 ((inRj_pos hg9).mpr q)
          refine g_goto (tgt := 98) C dX1_nextAge_49 rfl ?_
          exact g_lvp [0, 1, 2, 3, 4, 5] rfl (L98 y z (by rw [pk_skip hg5 (fun q => hr q.1)]; exact hy) (by rw [pk_skip hg5 (fun q => hr q.1)]; exact hz))
    exact g_lvp [3, 4, 5, 2, 1, 0] rfl (L35 (5) 5 4 ((-1)) ((-1)) rfl (by first | omega | assumption | rfl | grind) (by decide) (rfl) (rfl))
  refine g_iload_n C dX1_nextAge_7 rfl rfl ?_
  refine g_iconst C dX1_nextAge_8 ic_4 ?_
  refine g_icmp_ne (tgt := 27) C dX1_nextAge_9 rfl (fun c9_8 => ?_) (fun c9_8 => ?_)
  · skip
    have n9_8 : ¬ (a 7 = 4) := fun q => c9_8 ((nj_eq (a := a 7) (b := 4) (by have := hBa 7; omega) (by have := hBa 7; omega)).mpr q)
    exact g_lvp [1, 2, 0] rfl (L27 (a 7) (by simp only [way]; first | rw [if_neg (by omega)] | (rw [if_pos (by omega)]; first | rw [if_pos (by omega)] | rw [if_neg (by omega)])) (by omega))
  · skip
    have n9_8 : a 7 = 4 := (nj_eq (a := a 7) (b := 4) (by have := hBa 7; omega) (by have := hBa 7; omega)).mp c9_8
    refine g_aload_n C dX1_nextAge_12 rfl rfl ?_
    refine g_get (v := .int (σ b 5)) C fl_X1_36 fs_X1_36 (HB.n0 hb hN) (HB.ou hb _) rfl dX1_nextAge_13 ?_
    refine g_val (y := nI (a 1)) (Hh.d hH) ?_
    refine g_iconst C dX1_nextAge_16 ic_2 ?_
    refine g_iremv (v := nI (a 1 % 2)) C (by decide) (nj_rem (b := 2) (by have := hBa 1; omega) (by omega)) dX1_nextAge_17 ?_
    refine g_if_ne (tgt := 25) C dX1_nextAge_18 rfl (fun c18_9 => ?_) (fun c18_9 => ?_)
    · skip
      have n18_9 : ¬ (a 1 % 2 = 0) := fun q => c18_9 ((nj_eq (a := a 1 % 2) (b := 0) (by have := hBa 1; omega) (by have := hBa 1; omega)).mpr q)
      refine g_iconst C dX1_nextAge_25 ic_1 ?_
      refine g_istore_n (lv' := [(2, .int 1), (0, .ref (wA w b)), (1, .int (nI e))]) C dX1_nextAge_26 rfl (by decide) rfl ?_
      exact g_lvp [1, 2, 0] rfl (L27 1 (by simp only [way]; first | rw [if_neg (by omega)] | (rw [if_pos (by omega)]; first | rw [if_pos (by omega)] | rw [if_neg (by omega)])) (by omega))
    · skip
      have n18_9 : a 1 % 2 = 0 := (nj_eq (a := a 1 % 2) (b := 0) (by have := hBa 1; omega) (by have := hBa 1; omega)).mp c18_9
      refine g_iconst C dX1_nextAge_21 ic_2 ?_
      refine g_goto (tgt := 26) C dX1_nextAge_22 rfl ?_
      refine g_istore_n (lv' := [(2, .int 2), (0, .ref (wA w b)), (1, .int (nI e))]) C dX1_nextAge_26 rfl (by decide) rfl ?_
      exact g_lvp [1, 2, 0] rfl (L27 2 (by simp only [way]; first | rw [if_neg (by omega)] | (rw [if_pos (by omega)]; first | rw [if_pos (by omega)] | rw [if_neg (by omega)])) (by omega))
set_option maxRecDepth 100000 in
set_option maxHeartbeats 4000000 in
theorem ct_X3_addEaten (l : Launch) (w : WD) (hN : 54 ≤ wN w) (σ : SG) (v : Int32) (ls : List Nat) (th la bo : Nat) (hT : Tl σ v ls th la bo) (g m : Nat) (wv : Int32) (hm : m ≤ 1000) (hls : ls.length ≤ 100000) (hg : g < 5) : CtV l w yX3_addEaten cX3_addEaten 5 1 0 0 [.ref (wA w 28), .int (nI g), .int (nI m), .int wv] σ (fun τ => Tl τ (v + nI m * wv) (ls ++ List.replicate m g) th la bo ∧ Fr inT σ τ) := by
  refine CtV.mk (by decide) (Nat.le_of_ble_eq_true rfl) ?_
  intro K C hr h0
  have r := RV.of hr h0
  clear hr h0
  show G l w K 0 [(0, .ref (wA w 28)), (1, .int (nI g)), (2, .int (nI m)), (3, .int wv)] [] σ
  refine g_aload_n C dX3_addEaten_0 rfl rfl ?_
  refine g_get (v := .ref (wA w 29)) C fl_X3_9 fs_X3_9 (Nat.lt_of_lt_of_le (by decide) hN) rfl rfl dX3_addEaten_1 ?_
  refine g_iconst C dX3_addEaten_4 ic_1 ?_
  refine g_dup2 C dX3_addEaten_5 rfl rfl ?_
  refine g_ial (k0 := 29) (n := 6) C (Nat.lt_of_lt_of_le (by decide) hN) rfl (j := 1) (by unfold ix; decide) dX3_addEaten_6 ?_
  refine g_iload_n C dX3_addEaten_7 rfl rfl ?_
  refine g_iaddv (v := (σ 29 1) + (nI m)) C rfl dX3_addEaten_8 ?_
  refine g_ias (k0 := 29) (n := 6) C (Nat.lt_of_lt_of_le (by decide) hN) rfl (j := 1) (by unfold ix; decide) dX3_addEaten_9 (fun σ_1 hσ_1 => ?_)
  have L24 : ∀ (σ1 : SG), (σ1 29 0 = v ∧ σ1 29 1 = nI (ls.length + m) ∧ σ1 29 2 = nI ((ls ++ List.replicate m g).count 0) ∧ σ1 29 3 = nI th ∧ σ1 29 4 = nI la ∧ σ1 29 5 = nI bo ∧ σ1 28 = σ 28 ∧ σ1 30 = σ 30) → (Fr inT σ σ1) → G l w K 24 [(0, .ref (wA w 28)), (1, .int (nI g)), (2, .int (nI m)), (3, .int wv)] [] σ1 := by
    intro σ1 h1 hF
    refine g_aload_n C dX3_addEaten_24 rfl rfl ?_
    refine g_get (v := .ref (wA w 29)) C fl_X3_9 fs_X3_9 (Nat.lt_of_lt_of_le (by decide) hN) rfl rfl dX3_addEaten_25 ?_
    refine g_iconst C dX3_addEaten_28 ic_0 ?_
    refine g_dup2 C dX3_addEaten_29 rfl rfl ?_
    refine g_ial (k0 := 29) (n := 6) C (Nat.lt_of_lt_of_le (by decide) hN) rfl (j := 0) (by unfold ix; decide) dX3_addEaten_30 ?_
    refine g_iload_n C dX3_addEaten_31 rfl rfl ?_
    refine g_iload_n C dX3_addEaten_32 rfl rfl ?_
    refine g_imulv (v := (nI m) * wv) C rfl dX3_addEaten_33 ?_
    refine g_iaddv (v := (σ1 29 0) + ((nI m) * wv)) C rfl dX3_addEaten_34 ?_
    refine g_ias (k0 := 29) (n := 6) C (Nat.lt_of_lt_of_le (by decide) hN) rfl (j := 0) (by unfold ix; decide) dX3_addEaten_35 (fun σ_2 hσ_2 => ?_)
    refine g_iconst C dX3_addEaten_36 ic_0 ?_
    refine g_istore (lv' := [(4, .int 0), (0, .ref (wA w 28)), (1, .int (nI g)), (2, .int (nI m)), (3, .int wv)]) C dX3_addEaten_37 (by decide) rfl ?_
    have L39 : ∀ (m39 : Nat) (k : Nat) (σ2 : SG), m39 = m - k → (k ≤ m) → (σ2 29 0 = v + nI m * wv ∧ σ2 29 1 = nI (ls.length + m) ∧ σ2 29 2 = nI ((ls ++ List.replicate m g).count 0) ∧ σ2 29 3 = nI th ∧ σ2 29 4 = nI la ∧ σ2 29 5 = nI bo) → (σ2 28 2 = nI (min 20 (ls.length + k))) → (∀ i, i < 20 → i < ls.length + k → σ2 30 i = nI ((ls ++ List.replicate m g).getD i 0)) → (Fr inT σ σ2) → G l w K 39 [(0, .ref (wA w 28)), (1, .int (nI g)), (2, .int (nI m)), (4, .int (nI k))] [] σ2 := by
      intro m39
      induction m39 using Nat.strongRecOn with
      | ind m39 ih39 =>
      intro k σ2 em39 hk hT2 hC hA hF2
      refine g_iload C dX3_addEaten_39 rfl ?_
      refine g_iload_n C dX3_addEaten_41 rfl rfl ?_
      refine g_icmp_ge (tgt := 80) C dX3_addEaten_42 rfl (fun c42_3 => ?_) (fun c42_3 => ?_)
      · skip
        have n42_3 : m ≤ k := (nj_le (a := m) (b := k) (by omega) (by omega)).mp c42_3
        obtain rfl : k = m := by omega
        refine g_vret C r dX3_addEaten_80 ?_
        exact ⟨addE_fin hT2 hC hA (by omega), hF2⟩
      · skip
        have n42_3 : ¬ (m ≤ k) := fun q => c42_3 ((nj_le (a := m) (b := k) (by omega) (by omega)).mpr q)
        refine g_aload_n C dX3_addEaten_45 rfl rfl ?_
        refine g_get (v := .int (σ2 28 2)) C fl_X3_24 fs_X3_24 (Nat.lt_of_lt_of_le (by decide) hN) rfl rfl dX3_addEaten_46 ?_
        refine g_val (y := nI (min 20 (ls.length + k))) hC ?_
        refine g_bipush C dX3_addEaten_49 bp_20 ?_
        refine g_icmp_ge (tgt := 80) C dX3_addEaten_51 rfl (fun c51_4 => ?_) (fun c51_4 => ?_)
        · skip
          have n51_4 : 20 ≤ min 20 (ls.length + k) := (nj_le (a := 20) (b := min 20 (ls.length + k)) (by omega) (by omega)).mp c51_4
          refine g_vret C r dX3_addEaten_80 ?_
          exact ⟨addE_fin hT2 hC hA (by omega), hF2⟩
        · skip
          have n51_4 : ¬ (20 ≤ min 20 (ls.length + k)) := fun q => c51_4 ((nj_le (a := 20) (b := min 20 (ls.length + k)) (by omega) (by omega)).mpr q)
          refine g_aload_n C dX3_addEaten_54 rfl rfl ?_
          refine g_get (v := .ref (wA w 30)) C fl_X3_15 fs_X3_15 (Nat.lt_of_lt_of_le (by decide) hN) rfl rfl dX3_addEaten_55 ?_
          refine g_aload_n C dX3_addEaten_58 rfl rfl ?_
          refine g_get (v := .int (σ2 28 2)) C fl_X3_24 fs_X3_24 (Nat.lt_of_lt_of_le (by decide) hN) rfl rfl dX3_addEaten_59 ?_
          refine g_val (y := nI (min 20 (ls.length + k))) hC ?_
          refine g_iload_n C dX3_addEaten_62 rfl rfl ?_
          refine g_ias (k0 := 30) (n := 20) C (Nat.lt_of_lt_of_le (by decide) hN) rfl (j := min 20 (ls.length + k)) (ix_n (by omega)) dX3_addEaten_63 (fun σ2n1 hσ2n1 => ?_)
          refine g_aload_n C dX3_addEaten_64 rfl rfl ?_
          refine g_dup C dX3_addEaten_65 rfl ?_
          refine g_get (v := .int (σ2n1 28 2)) C fl_X3_24 fs_X3_24 (Nat.lt_of_lt_of_le (by decide) hN) rfl rfl dX3_addEaten_66 ?_
          refine g_val (y := nI (min 20 (ls.length + k))) (by rw [hσ2n1, up_at, if_neg (by omega)]; exact hC) ?_
          refine g_iconst C dX3_addEaten_69 ic_1 ?_
          refine g_iaddv (v := nI ((min 20 (ls.length + k)) + 1)) C (nj_plus (min 20 (ls.length + k)) 1) dX3_addEaten_70 ?_
          refine g_putn C fp_X3_24 (Nat.lt_of_lt_of_le (by decide) hN) rfl rfl (Nat.le_of_ble_eq_true rfl) rfl rfl dX3_addEaten_71 (fun σ2n2 hσ2n2 => ?_)
          refine g_iinc (v := nI (k + 1)) (lv' := [(4, .int (nI (k + 1))), (0, .ref (wA w 28)), (1, .int (nI g)), (2, .int (nI m))]) C dX3_addEaten_74 (by decide) rfl (nj_inc k) rfl ?_
          refine g_goto (tgt := 39) C dX3_addEaten_77 rfl ?_
          exact g_lvp [1, 2, 3, 0] rfl (ih39 (m - (k + 1)) (by omega) (k + 1) σ2n2 rfl (by first | omega | assumption | rfl | grind) (by subst_vars; simp [up_at, hT2]) (by subst_vars; rw [up_at, if_pos ⟨rfl, rfl⟩]; exact congrArg nI (by omega)) (by exact addE_row hσ2n1 hσ2n2 hA (by omega) (by omega)) (by subst_vars; exact hF2.tr ((Fr.up (S := inT) ⟨by decide, by decide⟩).tr (Fr.up (S := inT) ⟨by decide, by decide⟩) (fun _ h => h)) (fun _ h => h)))
    obtain ⟨h0, hh1, h2, h3, h4, h5, h6, h7⟩ := hT
    obtain ⟨g0, g1, g2, g3, g4, g5, g6, g7⟩ := h1
    exact g_lvp [1, 2, 3, 0] rfl (L39 (m - 0) 0 σ_2 rfl (by first | omega | assumption | rfl | grind) (by subst_vars; simp [up_at, *]) (by subst_vars; simp [up_at, *]) (fun i hi hl => by have e1 := h7 i hi (by omega); subst_vars; rw [up_other (by decide), g7, e1, getD_app_l (by omega)]) (by subst_vars; exact hF.tr (Fr.up (S := inT) ⟨by decide, by decide⟩) (fun _ h => h)))
  refine g_iload_n C dX3_addEaten_10 rfl rfl ?_
  refine g_if_ne (tgt := 24) C dX3_addEaten_11 rfl (fun c11_5 => ?_) (fun c11_5 => ?_)
  · skip
    have n11_5 : ¬ (g = 0) := fun q => c11_5 ((nj_eq (a := g) (b := 0) (by omega) (by omega)).mpr q)
    obtain ⟨h0, h1, h2, h3, h4, h5, h6, h7⟩ := hT
    exact g_lvp [0, 1, 2, 3] rfl (L24 σ_1 (by subst_vars; simp [up_at, List.count_append, List.count_replicate, nj_plus, up_other, *]) (by subst_vars; exact Fr.up ⟨by decide, by decide⟩))
  · skip
    have n11_5 : g = 0 := (nj_eq (a := g) (b := 0) (by omega) (by omega)).mp c11_5
    refine g_aload_n C dX3_addEaten_14 rfl rfl ?_
    refine g_get (v := .ref (wA w 29)) C fl_X3_9 fs_X3_9 (Nat.lt_of_lt_of_le (by decide) hN) rfl rfl dX3_addEaten_15 ?_
    refine g_iconst C dX3_addEaten_18 ic_2 ?_
    refine g_dup2 C dX3_addEaten_19 rfl rfl ?_
    refine g_ial (k0 := 29) (n := 6) C (Nat.lt_of_lt_of_le (by decide) hN) rfl (j := 2) (by unfold ix; decide) dX3_addEaten_20 ?_
    refine g_iload_n C dX3_addEaten_21 rfl rfl ?_
    refine g_iaddv (v := (σ_1 29 2) + (nI m)) C rfl dX3_addEaten_22 ?_
    refine g_ias (k0 := 29) (n := 6) C (Nat.lt_of_lt_of_le (by decide) hN) rfl (j := 2) (by unfold ix; decide) dX3_addEaten_23 (fun σ_6 hσ_6 => ?_)
    obtain ⟨h0, h1, h2, h3, h4, h5, h6, h7⟩ := hT
    exact g_lvp [0, 1, 2, 3] rfl (L24 σ_6 (by subst_vars; simp [up_at, List.count_append, List.count_replicate, nj_plus, up_other, *]) (by subst_vars; exact (Fr.up (S := inT) ⟨by decide, by decide⟩).tr (Fr.up (S := inT) ⟨by decide, by decide⟩) (fun _ h => h)))
end
