section
-- ===== PART A: goes FIRST, ahead of the names: the tables' words, and 'selects' of the private methods out of them =====
/-- a private method of a class that the tables say can be made, by its rows of tables_1 -/
def lw_okq (q : MethodName × Nat) : Prop := (q.1.cls ≠ "java/lang/invoke/MethodHandle" ∧ q.1.cls ≠ "java/lang/invoke/VarHandle") ∧ Cond.instantiable q.1.cls q.2 ∈ tables_1 ∧ Cond.privateMethod q.1 ∈ tables_1 ∧ Cond.instanceMethod q.1 ∈ tables_1
theorem lw_p0 : lw_okq (⟨"NineDrawers", "fittingLetters", "()I"⟩, 10) := ⟨⟨by decide +kernel, by decide +kernel⟩, List.mem_of_getElem? (i := 7) (by decide +kernel), List.mem_of_getElem? (i := 133) (by decide +kernel), List.mem_of_getElem? (i := 134) (by decide +kernel)⟩
theorem lw_p1 : lw_okq (⟨"NineDrawers", "isDrawer", "(I)Z"⟩, 10) := ⟨⟨by decide +kernel, by decide +kernel⟩, List.mem_of_getElem? (i := 7) (by decide +kernel), List.mem_of_getElem? (i := 163) (by decide +kernel), List.mem_of_getElem? (i := 164) (by decide +kernel)⟩
theorem lw_p2 : lw_okq (⟨"NineDrawers", "aheadOf", "(I)I"⟩, 10) := ⟨⟨by decide +kernel, by decide +kernel⟩, List.mem_of_getElem? (i := 7) (by decide +kernel), List.mem_of_getElem? (i := 167) (by decide +kernel), List.mem_of_getElem? (i := 168) (by decide +kernel)⟩
theorem lw_p3 : lw_okq (⟨"NineDrawers", "courseOf", "(I)LNineDrawers$Course;"⟩, 10) := ⟨⟨by decide +kernel, by decide +kernel⟩, List.mem_of_getElem? (i := 7) (by decide +kernel), List.mem_of_getElem? (i := 175) (by decide +kernel), List.mem_of_getElem? (i := 176) (by decide +kernel)⟩
theorem lw_p4 : lw_okq (⟨"NineDrawers", "courseWithout", "(II)LNineDrawers$Course;"⟩, 10) := ⟨⟨by decide +kernel, by decide +kernel⟩, List.mem_of_getElem? (i := 7) (by decide +kernel), List.mem_of_getElem? (i := 179) (by decide +kernel), List.mem_of_getElem? (i := 180) (by decide +kernel)⟩
theorem lw_p5 : lw_okq (⟨"NineDrawers$Course", "onlyWeek", "()I"⟩, 7) := ⟨⟨by decide +kernel, by decide +kernel⟩, List.mem_of_getElem? (i := 59) (by decide +kernel), List.mem_of_getElem? (i := 205) (by decide +kernel), List.mem_of_getElem? (i := 206) (by decide +kernel)⟩
theorem lw_p6 : lw_okq (⟨"NineDrawers", "isPerson", "(I)Z"⟩, 10) := ⟨⟨by decide +kernel, by decide +kernel⟩, List.mem_of_getElem? (i := 7) (by decide +kernel), List.mem_of_getElem? (i := 244) (by decide +kernel), List.mem_of_getElem? (i := 245) (by decide +kernel)⟩
theorem lw_p7 : lw_okq (⟨"NineDrawers", "isAsFound", "(LNineDrawers$Course;I)Z"⟩, 10) := ⟨⟨by decide +kernel, by decide +kernel⟩, List.mem_of_getElem? (i := 7) (by decide +kernel), List.mem_of_getElem? (i := 304) (by decide +kernel), List.mem_of_getElem? (i := 305) (by decide +kernel)⟩
theorem lw_p8 : lw_okq (⟨"NineDrawers", "canBe", "(III)Z"⟩, 10) := ⟨⟨by decide +kernel, by decide +kernel⟩, List.mem_of_getElem? (i := 7) (by decide +kernel), List.mem_of_getElem? (i := 316) (by decide +kernel), List.mem_of_getElem? (i := 317) (by decide +kernel)⟩
theorem lw_p9 : lw_okq (⟨"NineDrawers", "drawersThatAgree", "()I"⟩, 10) := ⟨⟨by decide +kernel, by decide +kernel⟩, List.mem_of_getElem? (i := 7) (by decide +kernel), List.mem_of_getElem? (i := 349) (by decide +kernel), List.mem_of_getElem? (i := 350) (by decide +kernel)⟩
theorem lw_p10 : lw_okq (⟨"NineDrawers", "digestOfDrawer", "(JI)J"⟩, 10) := ⟨⟨by decide +kernel, by decide +kernel⟩, List.mem_of_getElem? (i := 7) (by decide +kernel), List.mem_of_getElem? (i := 363) (by decide +kernel), List.mem_of_getElem? (i := 364) (by decide +kernel)⟩
theorem lw_p11 : lw_okq (⟨"NineDrawers", "digestOfPerson", "(JI)J"⟩, 10) := ⟨⟨by decide +kernel, by decide +kernel⟩, List.mem_of_getElem? (i := 7) (by decide +kernel), List.mem_of_getElem? (i := 371) (by decide +kernel), List.mem_of_getElem? (i := 372) (by decide +kernel)⟩
theorem lw_p12 : lw_okq (⟨"NineDrawersModel", "faultNow", "()I"⟩, 29) := ⟨⟨by decide +kernel, by decide +kernel⟩, List.mem_of_getElem? (i := 378) (by decide +kernel), List.mem_of_getElem? (i := 488) (by decide +kernel), List.mem_of_getElem? (i := 489) (by decide +kernel)⟩
theorem lw_p13 : lw_okq (⟨"NineDrawersModel", "isDrawer", "(I)Z"⟩, 29) := ⟨⟨by decide +kernel, by decide +kernel⟩, List.mem_of_getElem? (i := 378) (by decide +kernel), List.mem_of_getElem? (i := 507) (by decide +kernel), List.mem_of_getElem? (i := 508) (by decide +kernel)⟩
theorem lw_p14 : lw_okq (⟨"NineDrawersModel", "drawerNow", "(II)I"⟩, 29) := ⟨⟨by decide +kernel, by decide +kernel⟩, List.mem_of_getElem? (i := 378) (by decide +kernel), List.mem_of_getElem? (i := 511) (by decide +kernel), List.mem_of_getElem? (i := 512) (by decide +kernel)⟩
theorem lw_p15 : lw_okq (⟨"NineDrawersModel", "aheadOf", "(I)I"⟩, 29) := ⟨⟨by decide +kernel, by decide +kernel⟩, List.mem_of_getElem? (i := 378) (by decide +kernel), List.mem_of_getElem? (i := 515) (by decide +kernel), List.mem_of_getElem? (i := 516) (by decide +kernel)⟩
def lw_privs_1 : List (MethodName × Nat) := [(⟨"NineDrawers", "fittingLetters", "()I"⟩, 10), (⟨"NineDrawers", "isDrawer", "(I)Z"⟩, 10), (⟨"NineDrawers", "aheadOf", "(I)I"⟩, 10), (⟨"NineDrawers", "courseOf", "(I)LNineDrawers$Course;"⟩, 10), (⟨"NineDrawers", "courseWithout", "(II)LNineDrawers$Course;"⟩, 10), (⟨"NineDrawers$Course", "onlyWeek", "()I"⟩, 7), (⟨"NineDrawers", "isPerson", "(I)Z"⟩, 10), (⟨"NineDrawers", "isAsFound", "(LNineDrawers$Course;I)Z"⟩, 10), (⟨"NineDrawers", "canBe", "(III)Z"⟩, 10), (⟨"NineDrawers", "drawersThatAgree", "()I"⟩, 10), (⟨"NineDrawers", "digestOfDrawer", "(JI)J"⟩, 10), (⟨"NineDrawers", "digestOfPerson", "(JI)J"⟩, 10), (⟨"NineDrawersModel", "faultNow", "()I"⟩, 29), (⟨"NineDrawersModel", "isDrawer", "(I)Z"⟩, 29), (⟨"NineDrawersModel", "drawerNow", "(II)I"⟩, 29), (⟨"NineDrawersModel", "aheadOf", "(I)I"⟩, 29)]
theorem lw_r1 : ∀ q ∈ lw_privs_1, lw_okq q := List.forall_mem_cons.mpr ⟨lw_p0, List.forall_mem_cons.mpr ⟨lw_p1, List.forall_mem_cons.mpr ⟨lw_p2, List.forall_mem_cons.mpr ⟨lw_p3, List.forall_mem_cons.mpr ⟨lw_p4, List.forall_mem_cons.mpr ⟨lw_p5, List.forall_mem_cons.mpr ⟨lw_p6, List.forall_mem_cons.mpr ⟨lw_p7, List.forall_mem_cons.mpr ⟨lw_p8, List.forall_mem_cons.mpr ⟨lw_p9, List.forall_mem_cons.mpr ⟨lw_p10, List.forall_mem_cons.mpr ⟨lw_p11, List.forall_mem_cons.mpr ⟨lw_p12, List.forall_mem_cons.mpr ⟨lw_p13, List.forall_mem_cons.mpr ⟨lw_p14, List.forall_mem_cons.mpr ⟨lw_p15, fun _ h => absurd h List.not_mem_nil⟩⟩⟩⟩⟩⟩⟩⟩⟩⟩⟩⟩⟩⟩⟩⟩
theorem lw_p16 : lw_okq (⟨"NineDrawersModel", "peopleOf", "(I)I"⟩, 29) := ⟨⟨by decide +kernel, by decide +kernel⟩, List.mem_of_getElem? (i := 378) (by decide +kernel), List.mem_of_getElem? (i := 519) (by decide +kernel), List.mem_of_getElem? (i := 520) (by decide +kernel)⟩
theorem lw_p17 : lw_okq (⟨"NineDrawersModel", "agreeing", "(I)I"⟩, 29) := ⟨⟨by decide +kernel, by decide +kernel⟩, List.mem_of_getElem? (i := 378) (by decide +kernel), List.mem_of_getElem? (i := 523) (by decide +kernel), List.mem_of_getElem? (i := 524) (by decide +kernel)⟩
theorem lw_p18 : lw_okq (⟨"NineDrawersModel", "isSo", "(II)Z"⟩, 29) := ⟨⟨by decide +kernel, by decide +kernel⟩, List.mem_of_getElem? (i := 378) (by decide +kernel), List.mem_of_getElem? (i := 527) (by decide +kernel), List.mem_of_getElem? (i := 528) (by decide +kernel)⟩
theorem lw_p19 : lw_okq (⟨"NineDrawersModel", "firstWrong", "(IIII)I"⟩, 29) := ⟨⟨by decide +kernel, by decide +kernel⟩, List.mem_of_getElem? (i := 378) (by decide +kernel), List.mem_of_getElem? (i := 531) (by decide +kernel), List.mem_of_getElem? (i := 532) (by decide +kernel)⟩
theorem lw_p20 : lw_okq (⟨"NineDrawersModel", "putBy", "(II)I"⟩, 29) := ⟨⟨by decide +kernel, by decide +kernel⟩, List.mem_of_getElem? (i := 378) (by decide +kernel), List.mem_of_getElem? (i := 535) (by decide +kernel), List.mem_of_getElem? (i := 536) (by decide +kernel)⟩
theorem lw_p21 : lw_okq (⟨"NineDrawersModel", "cannotOf", "(I)I"⟩, 29) := ⟨⟨by decide +kernel, by decide +kernel⟩, List.mem_of_getElem? (i := 378) (by decide +kernel), List.mem_of_getElem? (i := 545) (by decide +kernel), List.mem_of_getElem? (i := 546) (by decide +kernel)⟩
theorem lw_p22 : lw_okq (⟨"NineDrawersModel", "leastOf", "(I)I"⟩, 29) := ⟨⟨by decide +kernel, by decide +kernel⟩, List.mem_of_getElem? (i := 378) (by decide +kernel), List.mem_of_getElem? (i := 549) (by decide +kernel), List.mem_of_getElem? (i := 550) (by decide +kernel)⟩
theorem lw_p23 : lw_okq (⟨"NineDrawersModel", "isPerson", "(I)Z"⟩, 29) := ⟨⟨by decide +kernel, by decide +kernel⟩, List.mem_of_getElem? (i := 378) (by decide +kernel), List.mem_of_getElem? (i := 564) (by decide +kernel), List.mem_of_getElem? (i := 565) (by decide +kernel)⟩
theorem lw_p24 : lw_okq (⟨"NineDrawersModel", "personNow", "(II)I"⟩, 29) := ⟨⟨by decide +kernel, by decide +kernel⟩, List.mem_of_getElem? (i := 378) (by decide +kernel), List.mem_of_getElem? (i := 568) (by decide +kernel), List.mem_of_getElem? (i := 569) (by decide +kernel)⟩
theorem lw_p25 : lw_okq (⟨"NineDrawersModel", "sureNow", "(II)I"⟩, 29) := ⟨⟨by decide +kernel, by decide +kernel⟩, List.mem_of_getElem? (i := 378) (by decide +kernel), List.mem_of_getElem? (i := 592) (by decide +kernel), List.mem_of_getElem? (i := 593) (by decide +kernel)⟩
theorem lw_p26 : lw_okq (⟨"NineDrawersModel", "fewNow", "(III)I"⟩, 29) := ⟨⟨by decide +kernel, by decide +kernel⟩, List.mem_of_getElem? (i := 378) (by decide +kernel), List.mem_of_getElem? (i := 600) (by decide +kernel), List.mem_of_getElem? (i := 601) (by decide +kernel)⟩
theorem lw_p27 : lw_okq (⟨"NineDrawersModel", "isEnough", "(III)Z"⟩, 29) := ⟨⟨by decide +kernel, by decide +kernel⟩, List.mem_of_getElem? (i := 378) (by decide +kernel), List.mem_of_getElem? (i := 607) (by decide +kernel), List.mem_of_getElem? (i := 608) (by decide +kernel)⟩
theorem lw_p28 : lw_okq (⟨"NineDrawersModel", "delaysOf", "(I)I"⟩, 29) := ⟨⟨by decide +kernel, by decide +kernel⟩, List.mem_of_getElem? (i := 378) (by decide +kernel), List.mem_of_getElem? (i := 623) (by decide +kernel), List.mem_of_getElem? (i := 624) (by decide +kernel)⟩
theorem lw_p29 : lw_okq (⟨"NineDrawersModel", "anyBy", "(II)Z"⟩, 29) := ⟨⟨by decide +kernel, by decide +kernel⟩, List.mem_of_getElem? (i := 378) (by decide +kernel), List.mem_of_getElem? (i := 627) (by decide +kernel), List.mem_of_getElem? (i := 628) (by decide +kernel)⟩
theorem lw_p30 : lw_okq (⟨"NineDrawersModel", "isFound", "(II)Z"⟩, 29) := ⟨⟨by decide +kernel, by decide +kernel⟩, List.mem_of_getElem? (i := 378) (by decide +kernel), List.mem_of_getElem? (i := 631) (by decide +kernel), List.mem_of_getElem? (i := 632) (by decide +kernel)⟩
theorem lw_p31 : lw_okq (⟨"NineDrawersModel", "whoNow", "(II)I"⟩, 29) := ⟨⟨by decide +kernel, by decide +kernel⟩, List.mem_of_getElem? (i := 378) (by decide +kernel), List.mem_of_getElem? (i := 639) (by decide +kernel), List.mem_of_getElem? (i := 640) (by decide +kernel)⟩
def lw_privs_2 : List (MethodName × Nat) := [(⟨"NineDrawersModel", "peopleOf", "(I)I"⟩, 29), (⟨"NineDrawersModel", "agreeing", "(I)I"⟩, 29), (⟨"NineDrawersModel", "isSo", "(II)Z"⟩, 29), (⟨"NineDrawersModel", "firstWrong", "(IIII)I"⟩, 29), (⟨"NineDrawersModel", "putBy", "(II)I"⟩, 29), (⟨"NineDrawersModel", "cannotOf", "(I)I"⟩, 29), (⟨"NineDrawersModel", "leastOf", "(I)I"⟩, 29), (⟨"NineDrawersModel", "isPerson", "(I)Z"⟩, 29), (⟨"NineDrawersModel", "personNow", "(II)I"⟩, 29), (⟨"NineDrawersModel", "sureNow", "(II)I"⟩, 29), (⟨"NineDrawersModel", "fewNow", "(III)I"⟩, 29), (⟨"NineDrawersModel", "isEnough", "(III)Z"⟩, 29), (⟨"NineDrawersModel", "delaysOf", "(I)I"⟩, 29), (⟨"NineDrawersModel", "anyBy", "(II)Z"⟩, 29), (⟨"NineDrawersModel", "isFound", "(II)Z"⟩, 29), (⟨"NineDrawersModel", "whoNow", "(II)I"⟩, 29)]
theorem lw_r2 : ∀ q ∈ lw_privs_2, lw_okq q := List.forall_mem_cons.mpr ⟨lw_p16, List.forall_mem_cons.mpr ⟨lw_p17, List.forall_mem_cons.mpr ⟨lw_p18, List.forall_mem_cons.mpr ⟨lw_p19, List.forall_mem_cons.mpr ⟨lw_p20, List.forall_mem_cons.mpr ⟨lw_p21, List.forall_mem_cons.mpr ⟨lw_p22, List.forall_mem_cons.mpr ⟨lw_p23, List.forall_mem_cons.mpr ⟨lw_p24, List.forall_mem_cons.mpr ⟨lw_p25, List.forall_mem_cons.mpr ⟨lw_p26, List.forall_mem_cons.mpr ⟨lw_p27, List.forall_mem_cons.mpr ⟨lw_p28, List.forall_mem_cons.mpr ⟨lw_p29, List.forall_mem_cons.mpr ⟨lw_p30, List.forall_mem_cons.mpr ⟨lw_p31, fun _ h => absurd h List.not_mem_nil⟩⟩⟩⟩⟩⟩⟩⟩⟩⟩⟩⟩⟩⟩⟩⟩
theorem lw_p32 : lw_okq (⟨"NineDrawersModel", "weeksNow", "(III)I"⟩, 29) := ⟨⟨by decide +kernel, by decide +kernel⟩, List.mem_of_getElem? (i := 378) (by decide +kernel), List.mem_of_getElem? (i := 647) (by decide +kernel), List.mem_of_getElem? (i := 648) (by decide +kernel)⟩
theorem lw_p33 : lw_okq (⟨"NineDrawersModel", "draw", "(I)I"⟩, 29) := ⟨⟨by decide +kernel, by decide +kernel⟩, List.mem_of_getElem? (i := 378) (by decide +kernel), List.mem_of_getElem? (i := 651) (by decide +kernel), List.mem_of_getElem? (i := 652) (by decide +kernel)⟩
theorem lw_p34 : lw_okq (⟨"NineDrawersModel", "anyLaid", "(II)Z"⟩, 29) := ⟨⟨by decide +kernel, by decide +kernel⟩, List.mem_of_getElem? (i := 378) (by decide +kernel), List.mem_of_getElem? (i := 659) (by decide +kernel), List.mem_of_getElem? (i := 660) (by decide +kernel)⟩
theorem lw_p35 : lw_okq (⟨"NineDrawersModel", "howMany", "(I)I"⟩, 29) := ⟨⟨by decide +kernel, by decide +kernel⟩, List.mem_of_getElem? (i := 378) (by decide +kernel), List.mem_of_getElem? (i := 675) (by decide +kernel), List.mem_of_getElem? (i := 676) (by decide +kernel)⟩
theorem lw_p36 : lw_okq (⟨"NineDrawersModel", "agreeingDrawers", "()I"⟩, 29) := ⟨⟨by decide +kernel, by decide +kernel⟩, List.mem_of_getElem? (i := 378) (by decide +kernel), List.mem_of_getElem? (i := 679) (by decide +kernel), List.mem_of_getElem? (i := 680) (by decide +kernel)⟩
theorem lw_p37 : lw_okq (⟨"NineDrawersModel", "laidAll", "()I"⟩, 29) := ⟨⟨by decide +kernel, by decide +kernel⟩, List.mem_of_getElem? (i := 378) (by decide +kernel), List.mem_of_getElem? (i := 683) (by decide +kernel), List.mem_of_getElem? (i := 684) (by decide +kernel)⟩
theorem lw_p38 : lw_okq (⟨"NineDrawersModel", "mixDrawer", "(I)V"⟩, 29) := ⟨⟨by decide +kernel, by decide +kernel⟩, List.mem_of_getElem? (i := 378) (by decide +kernel), List.mem_of_getElem? (i := 692) (by decide +kernel), List.mem_of_getElem? (i := 693) (by decide +kernel)⟩
theorem lw_p39 : lw_okq (⟨"NineDrawersModel", "mix", "(J)V"⟩, 29) := ⟨⟨by decide +kernel, by decide +kernel⟩, List.mem_of_getElem? (i := 378) (by decide +kernel), List.mem_of_getElem? (i := 696) (by decide +kernel), List.mem_of_getElem? (i := 697) (by decide +kernel)⟩
def lw_privs_3 : List (MethodName × Nat) := [(⟨"NineDrawersModel", "weeksNow", "(III)I"⟩, 29), (⟨"NineDrawersModel", "draw", "(I)I"⟩, 29), (⟨"NineDrawersModel", "anyLaid", "(II)Z"⟩, 29), (⟨"NineDrawersModel", "howMany", "(I)I"⟩, 29), (⟨"NineDrawersModel", "agreeingDrawers", "()I"⟩, 29), (⟨"NineDrawersModel", "laidAll", "()I"⟩, 29), (⟨"NineDrawersModel", "mixDrawer", "(I)V"⟩, 29), (⟨"NineDrawersModel", "mix", "(J)V"⟩, 29)]
theorem lw_r3 : ∀ q ∈ lw_privs_3, lw_okq q := List.forall_mem_cons.mpr ⟨lw_p32, List.forall_mem_cons.mpr ⟨lw_p33, List.forall_mem_cons.mpr ⟨lw_p34, List.forall_mem_cons.mpr ⟨lw_p35, List.forall_mem_cons.mpr ⟨lw_p36, List.forall_mem_cons.mpr ⟨lw_p37, List.forall_mem_cons.mpr ⟨lw_p38, List.forall_mem_cons.mpr ⟨lw_p39, fun _ h => absurd h List.not_mem_nil⟩⟩⟩⟩⟩⟩⟩⟩
def lw_privs : List (MethodName × Nat) := lw_privs_1 ++ (lw_privs_2 ++ (lw_privs_3))
def lw_tbl : List Cond := k2_sels lw_privs ++ tables_1
theorem lw_privs_ok : ∀ q ∈ lw_privs, lw_okq q := by
  show ∀ q ∈ lw_privs_1 ++ (lw_privs_2 ++ (lw_privs_3)), lw_okq q
  exact List.forall_mem_append.mpr ⟨lw_r1, List.forall_mem_append.mpr ⟨lw_r2, lw_r3⟩⟩
-- ===== end of PART A; then your names; then what follows =====
end
section
/-! ===== BEGIN words of one list among another's, by their places ===== -/
theorem goodIn_r {big : List Cond} (ws : List Cond) (ps : List Nat) (hp : ws = ps.filterMap (fun i => big[i]?)) (h : ws.all goodWord = true) : GoodIn big ws := by
  intro w hw
  have h1 := List.all_eq_true.mp h w hw
  rw [hp] at hw
  obtain ⟨i, -, hi⟩ := List.mem_filterMap.mp hw
  have hm : w ∈ big := by first | exact List.mem_of_getElem? hi | exact List.getElem?_mem hi
  exact ⟨hm, good_of_word h1⟩
theorem goodIn_app {big a b : List Cond} (ha : GoodIn big a) (hb : GoodIn big b) : GoodIn big (a ++ b) := fun w h => (List.mem_append.mp h).elim (ha w) (hb w)
theorem goodIn_ca {big a b : List Cond} {c : Cond} (ha : GoodIn big (c :: a)) (hb : GoodIn big b) : GoodIn big (c :: (a ++ b)) := fun w h => (List.mem_cons.mp h).elim (fun e => ha w (List.mem_cons.mpr (Or.inl e))) (fun h => (List.mem_append.mp h).elim (fun h => ha w (List.mem_cons.mpr (Or.inr h))) (hb w))
theorem goodIn_sub {big ws : List Cond} (hm : ∀ w ∈ ws, w ∈ big) (h : ws.all goodWord = true) : GoodIn big ws := fun w hw => ⟨hm w hw, good_of_word (List.all_eq_true.mp h w hw)⟩
/-! ===== END ===== -/

/-! ===== BEGIN printed: names, fields, word lists, decode rows ===== -/
def RX0 : String := "NineDrawers$Course"
def TX0 : u_T := fun k => match k with
  | 0 => ("NineDrawers$Course", "ahead", "I", false)
  | 1 => ("NineDrawers$Course", "laid", "I", false)
  | 2 => ("NineDrawers$Course", "putIfEmpty", "I", false)
  | 3 => ("NineDrawers$Course", "putIfThere", "I", false)
  | 4 => ("NineDrawers$Course", "canHold", "I", false)
  | 5 => ("NineDrawers$Course", "canLack", "I", false)
  | _ => ("NineDrawers$Course", "stuck", "I", false)
def tyX0 : Nat → FieldType := fun k => match k with
  | 0 => .int
  | 1 => .int
  | 2 => .int
  | 3 => .int
  | 4 => .int
  | 5 => .int
  | _ => .int
abbrev wsX00 : List Cond := u_ws RX0 TX0 7
theorem nmX0 : ∀ a, a < 7 → ∀ b, b < 7 → a ≠ b → (TX0 a).2.1 ≠ (TX0 b).2.1 := by decide +kernel
theorem tyX0_ok : ∀ k, k < 7 → parseFieldDescriptor (TX0 k).2.2.1 = some (tyX0 k) := by decide +kernel
abbrev cX0_init : ByteArray := prog_2_method_1_code
def yX0_init : MethodName := ⟨RX0, "<init>", "()V"⟩
abbrev cX0_start : ByteArray := prog_2_method_2_code
def yX0_start : MethodName := ⟨RX0, "start", "(II)V"⟩
abbrev cX0_join : ByteArray := prog_2_method_3_code
def yX0_join : MethodName := ⟨RX0, "join", "(II)V"⟩
abbrev cX0_mustBe : ByteArray := prog_2_method_4_code
def yX0_mustBe : MethodName := ⟨RX0, "mustBe", "(I)I"⟩
abbrev cX0_settle : ByteArray := prog_2_method_5_code
def yX0_settle : MethodName := ⟨RX0, "settle", "()V"⟩
abbrev cX0_onlyWeek : ByteArray := prog_2_method_6_code
def yX0_onlyWeek : MethodName := ⟨RX0, "onlyWeek", "()I"⟩
abbrev cX0_agreeing : ByteArray := prog_2_method_7_code
def yX0_agreeing : MethodName := ⟨RX0, "agreeing", "()I"⟩
abbrev cX0_firstStuckDay : ByteArray := prog_2_method_8_code
def yX0_firstStuckDay : MethodName := ⟨RX0, "firstStuckDay", "()I"⟩
abbrev cX0_leastWeek : ByteArray := prog_2_method_9_code
def yX0_leastWeek : MethodName := ⟨RX0, "leastWeek", "()I"⟩
abbrev cX0_sureOn : ByteArray := prog_2_method_10_code
def yX0_sureOn : MethodName := ⟨RX0, "sureOn", "(I)I"⟩
abbrev cX0_isSureOfAll : ByteArray := prog_2_method_11_code
def yX0_isSureOfAll : MethodName := ⟨RX0, "isSureOfAll", "(I)Z"⟩
abbrev cX0_allows : ByteArray := prog_2_method_12_code
def yX0_allows : MethodName := ⟨RX0, "allows", "(II)Z"⟩
def RX1 : String := "NineDrawers$Hall"
def TX1 : u_T := fun k => match k with
  | 0 => ("NineDrawers$Hall", "facing", "I", false)
  | 1 => ("NineDrawers$Hall", "people", "I", false)
  | 2 => ("NineDrawers$Hall", "timesFound", "I", false)
  | 3 => ("NineDrawers$Hall", "kindOf", "[I", true)
  | 4 => ("NineDrawers$Hall", "drawerOf", "[I", true)
  | 5 => ("NineDrawers$Hall", "ownDayOf", "[I", true)
  | 6 => ("NineDrawers$Hall", "laidIn", "[I", true)
  | 7 => ("NineDrawers$Hall", "foundThere", "[I", true)
  | _ => ("NineDrawers$Hall", "foundEmpty", "[I", true)
def tyX1 : Nat → FieldType := fun k => match k with
  | 0 => .int
  | 1 => .int
  | 2 => .int
  | 3 => .array .int
  | 4 => .array .int
  | 5 => .array .int
  | 6 => .array .int
  | 7 => .array .int
  | _ => .array .int
abbrev wsX10 : List Cond := u_ws RX1 TX1 9
theorem nmX1 : ∀ a, a < 9 → ∀ b, b < 9 → a ≠ b → (TX1 a).2.1 ≠ (TX1 b).2.1 := by decide +kernel
theorem tyX1_ok : ∀ k, k < 9 → parseFieldDescriptor (TX1 k).2.2.1 = some (tyX1 k) := by decide +kernel
abbrev cX1_init : ByteArray := prog_3_method_1_code
def yX1_init : MethodName := ⟨RX1, "<init>", "()V"⟩
abbrev cX1_clear : ByteArray := prog_3_method_2_code
def yX1_clear : MethodName := ⟨RX1, "clear", "(I)V"⟩
abbrev cX1_clearFound : ByteArray := prog_3_method_3_code
def yX1_clearFound : MethodName := ⟨RX1, "clearFound", "()V"⟩
abbrev cX1_takeFrom : ByteArray := prog_3_method_4_code
def yX1_takeFrom : MethodName := ⟨RX1, "takeFrom", "(LNineDrawers$Hall;)V"⟩
abbrev cX1_peopleOf : ByteArray := prog_3_method_5_code
def yX1_peopleOf : MethodName := ⟨RX1, "peopleOf", "(I)I"⟩
abbrev cX1_thingsLaid : ByteArray := prog_3_method_6_code
def yX1_thingsLaid : MethodName := ⟨RX1, "thingsLaid", "()I"⟩
def RX2 : String := "NineDrawers"
def TX2 : u_T := fun k => match k with
  | 0 => ("NineDrawers", "page", "[I", true)
  | 1 => ("NineDrawers", "pageLength", "I", false)
  | 2 => ("NineDrawers", "hasChest", "Z", false)
  | 3 => ("NineDrawers", "delayOf", "[I", true)
  | 4 => ("NineDrawers", "hall", "LNineDrawers$Hall;", true)
  | 5 => ("NineDrawers", "hasImage", "Z", false)
  | 6 => ("NineDrawers", "kept", "LNineDrawers$Hall;", true)
  | 7 => ("NineDrawers", "chestsRead", "I", false)
  | 8 => ("NineDrawers", "fewDone", "I", false)
  | _ => ("NineDrawers", "course", "LNineDrawers$Course;", true)
def tyX2 : Nat → FieldType := fun k => match k with
  | 0 => .array .int
  | 1 => .int
  | 2 => .boolean
  | 3 => .array .int
  | 4 => .object "NineDrawers$Hall"
  | 5 => .boolean
  | 6 => .object "NineDrawers$Hall"
  | 7 => .int
  | 8 => .int
  | _ => .object "NineDrawers$Course"
abbrev wsX20 : List Cond := u_ws RX2 TX2 10
theorem nmX2 : ∀ a, a < 10 → ∀ b, b < 10 → a ≠ b → (TX2 a).2.1 ≠ (TX2 b).2.1 := by decide +kernel
theorem tyX2_ok : ∀ k, k < 10 → parseFieldDescriptor (TX2 k).2.2.1 = some (tyX2 k) := by decide +kernel
abbrev cX2_init : ByteArray := prog_1_method_1_code
def yX2_init : MethodName := ⟨RX2, "<init>", "()V"⟩
abbrev cX2_letter : ByteArray := prog_1_method_2_code
def yX2_letter : MethodName := ⟨RX2, "letter", "(I)I"⟩
abbrev cX2_blank : ByteArray := prog_1_method_3_code
def yX2_blank : MethodName := ⟨RX2, "blank", "()I"⟩
abbrev cX2_fault : ByteArray := prog_1_method_4_code
def yX2_fault : MethodName := ⟨RX2, "fault", "()I"⟩
abbrev cX2_chest : ByteArray := prog_1_method_5_code
def yX2_chest : MethodName := ⟨RX2, "chest", "()I"⟩
abbrev cX2_face : ByteArray := prog_1_method_6_code
def yX2_face : MethodName := ⟨RX2, "face", "(I)I"⟩
abbrev cX2_drawer : ByteArray := prog_1_method_7_code
def yX2_drawer : MethodName := ⟨RX2, "drawer", "(II)I"⟩
abbrev cX2_person : ByteArray := prog_1_method_8_code
def yX2_person : MethodName := ⟨RX2, "person", "(III)I"⟩
abbrev cX2_about : ByteArray := prog_1_method_9_code
def yX2_about : MethodName := ⟨RX2, "about", "(II)I"⟩
abbrev cX2_as : ByteArray := prog_1_method_10_code
def yX2_as : MethodName := ⟨RX2, "as", "(II)I"⟩
abbrev cX2_move : ByteArray := prog_1_method_11_code
def yX2_move : MethodName := ⟨RX2, "move", "(II)I"⟩
abbrev cX2_lay : ByteArray := prog_1_method_12_code
def yX2_lay : MethodName := ⟨RX2, "lay", "(IIZ)I"⟩
abbrev cX2_agrees : ByteArray := prog_1_method_13_code
def yX2_agrees : MethodName := ⟨RX2, "agrees", "(II)I"⟩
abbrev cX2_sure : ByteArray := prog_1_method_14_code
def yX2_sure : MethodName := ⟨RX2, "sure", "(II)I"⟩
abbrev cX2_few : ByteArray := prog_1_method_15_code
def yX2_few : MethodName := ⟨RX2, "few", "(III)I"⟩
abbrev cX2_found : ByteArray := prog_1_method_16_code
def yX2_found : MethodName := ⟨RX2, "found", "(IIZ)I"⟩
abbrev cX2_forget : ByteArray := prog_1_method_17_code
def yX2_forget : MethodName := ⟨RX2, "forget", "()I"⟩
abbrev cX2_delays : ByteArray := prog_1_method_18_code
def yX2_delays : MethodName := ⟨RX2, "delays", "(I)I"⟩
abbrev cX2_who : ByteArray := prog_1_method_19_code
def yX2_who : MethodName := ⟨RX2, "who", "(II)I"⟩
abbrev cX2_weeks : ByteArray := prog_1_method_20_code
def yX2_weeks : MethodName := ⟨RX2, "weeks", "(III)I"⟩
abbrev cX2_image : ByteArray := prog_1_method_21_code
def yX2_image : MethodName := ⟨RX2, "image", "()I"⟩
abbrev cX2_restore : ByteArray := prog_1_method_22_code
def yX2_restore : MethodName := ⟨RX2, "restore", "()I"⟩
abbrev cX2_count : ByteArray := prog_1_method_23_code
def yX2_count : MethodName := ⟨RX2, "count", "(I)I"⟩
abbrev cX2_digest : ByteArray := prog_1_method_24_code
def yX2_digest : MethodName := ⟨RX2, "digest", "()J"⟩
abbrev cX2_digestOfDrawer : ByteArray := prog_1_method_25_code
def yX2_digestOfDrawer : MethodName := ⟨RX2, "digestOfDrawer", "(JI)J"⟩
abbrev cX2_digestOfPerson : ByteArray := prog_1_method_26_code
def yX2_digestOfPerson : MethodName := ⟨RX2, "digestOfPerson", "(JI)J"⟩
abbrev cX2_isDrawer : ByteArray := prog_1_method_27_code
def yX2_isDrawer : MethodName := ⟨RX2, "isDrawer", "(I)Z"⟩
abbrev cX2_isPerson : ByteArray := prog_1_method_28_code
def yX2_isPerson : MethodName := ⟨RX2, "isPerson", "(I)Z"⟩
abbrev cX2_isDay : ByteArray := prog_1_method_29_code
def yX2_isDay : MethodName := ⟨RX2, "isDay", "(I)Z"⟩
abbrev cX2_isKind : ByteArray := prog_1_method_30_code
def yX2_isKind : MethodName := ⟨RX2, "isKind", "(I)Z"⟩
abbrev cX2_bitOf : ByteArray := prog_1_method_31_code
def yX2_bitOf : MethodName := ⟨RX2, "bitOf", "(II)I"⟩
abbrev cX2_fittingLetters : ByteArray := prog_1_method_32_code
def yX2_fittingLetters : MethodName := ⟨RX2, "fittingLetters", "()I"⟩
abbrev cX2_fits : ByteArray := prog_1_method_33_code
def yX2_fits : MethodName := ⟨RX2, "fits", "(II)Z"⟩
abbrev cX2_delayByLetter : ByteArray := prog_1_method_34_code
def yX2_delayByLetter : MethodName := ⟨RX2, "delayByLetter", "(I)I"⟩
abbrev cX2_isOfKind : ByteArray := prog_1_method_35_code
def yX2_isOfKind : MethodName := ⟨RX2, "isOfKind", "(II)Z"⟩
abbrev cX2_putsIfEmpty : ByteArray := prog_1_method_36_code
def yX2_putsIfEmpty : MethodName := ⟨RX2, "putsIfEmpty", "(II)I"⟩
abbrev cX2_putsIfThere : ByteArray := prog_1_method_37_code
def yX2_putsIfThere : MethodName := ⟨RX2, "putsIfThere", "(II)I"⟩
abbrev cX2_aheadOf : ByteArray := prog_1_method_38_code
def yX2_aheadOf : MethodName := ⟨RX2, "aheadOf", "(I)I"⟩
abbrev cX2_courseOf : ByteArray := prog_1_method_39_code
def yX2_courseOf : MethodName := ⟨RX2, "courseOf", "(I)LNineDrawers$Course;"⟩
abbrev cX2_courseWithout : ByteArray := prog_1_method_40_code
def yX2_courseWithout : MethodName := ⟨RX2, "courseWithout", "(II)LNineDrawers$Course;"⟩
abbrev cX2_canBe : ByteArray := prog_1_method_41_code
def yX2_canBe : MethodName := ⟨RX2, "canBe", "(III)Z"⟩
abbrev cX2_isAsFound : ByteArray := prog_1_method_42_code
def yX2_isAsFound : MethodName := ⟨RX2, "isAsFound", "(LNineDrawers$Course;I)Z"⟩
abbrev cX2_drawersThatAgree : ByteArray := prog_1_method_43_code
def yX2_drawersThatAgree : MethodName := ⟨RX2, "drawersThatAgree", "()I"⟩
abbrev cX2_fewestLaid : ByteArray := prog_1_method_44_code
def yX2_fewestLaid : MethodName := ⟨RX2, "fewestLaid", "(LNineDrawers$Course;I)I"⟩
abbrev cX2_nextSeed : ByteArray := prog_1_method_45_code
def yX2_nextSeed : MethodName := ⟨RX2, "nextSeed", "(I)I"⟩
abbrev cX2_drawOf : ByteArray := prog_1_method_46_code
def yX2_drawOf : MethodName := ⟨RX2, "drawOf", "(II)I"⟩
def RX3 : String := "NineDrawersModel"
def TX3 : u_T := fun k => match k with
  | 0 => ("NineDrawersModel", "isChest", "Z", false)
  | 1 => ("NineDrawersModel", "chests", "I", false)
  | 2 => ("NineDrawersModel", "delayOf", "[I", true)
  | 3 => ("NineDrawersModel", "facing", "I", false)
  | 4 => ("NineDrawersModel", "laidIn", "[I", true)
  | 5 => ("NineDrawersModel", "people", "I", false)
  | 6 => ("NineDrawersModel", "kindOf", "[I", true)
  | 7 => ("NineDrawersModel", "drawerOf", "[I", true)
  | 8 => ("NineDrawersModel", "dayOf", "[I", true)
  | 9 => ("NineDrawersModel", "found", "I", false)
  | 10 => ("NineDrawersModel", "foundIn", "[I", true)
  | 11 => ("NineDrawersModel", "foundOn", "[I", true)
  | 12 => ("NineDrawersModel", "foundIs", "[I", true)
  | 13 => ("NineDrawersModel", "asks", "I", false)
  | 14 => ("NineDrawersModel", "pageLength", "I", false)
  | 15 => ("NineDrawersModel", "page", "[B", true)
  | 16 => ("NineDrawersModel", "seedNow", "J", false)
  | 17 => ("NineDrawersModel", "isKept", "Z", false)
  | 18 => ("NineDrawersModel", "keptChest", "I", false)
  | 19 => ("NineDrawersModel", "keptFacing", "I", false)
  | 20 => ("NineDrawersModel", "keptPeople", "I", false)
  | 21 => ("NineDrawersModel", "keptFound", "I", false)
  | 22 => ("NineDrawersModel", "keptLaid", "[I", true)
  | 23 => ("NineDrawersModel", "keptDrawer", "[I", true)
  | 24 => ("NineDrawersModel", "keptDay", "[I", true)
  | 25 => ("NineDrawersModel", "keptIn", "[I", true)
  | 26 => ("NineDrawersModel", "keptOn", "[I", true)
  | 27 => ("NineDrawersModel", "keptIs", "[I", true)
  | _ => ("NineDrawersModel", "h", "J", false)
def tyX3 : Nat → FieldType := fun k => match k with
  | 0 => .boolean
  | 1 => .int
  | 2 => .array .int
  | 3 => .int
  | 4 => .array .int
  | 5 => .int
  | 6 => .array .int
  | 7 => .array .int
  | 8 => .array .int
  | 9 => .int
  | 10 => .array .int
  | 11 => .array .int
  | 12 => .array .int
  | 13 => .int
  | 14 => .int
  | 15 => .array .byte
  | 16 => .long
  | 17 => .boolean
  | 18 => .int
  | 19 => .int
  | 20 => .int
  | 21 => .int
  | 22 => .array .int
  | 23 => .array .int
  | 24 => .array .int
  | 25 => .array .int
  | 26 => .array .int
  | 27 => .array .int
  | _ => .long
abbrev wsX30 : List Cond := u_ws RX3 TX3 29
theorem nmX3 : ∀ a, a < 29 → ∀ b, b < 29 → a ≠ b → (TX3 a).2.1 ≠ (TX3 b).2.1 := by decide +kernel
theorem tyX3_ok : ∀ k, k < 29 → parseFieldDescriptor (TX3 k).2.2.1 = some (tyX3 k) := by decide +kernel
abbrev cX3_init : ByteArray := prog_5_method_1_code
def yX3_init : MethodName := ⟨RX3, "<init>", "()V"⟩
abbrev cX3_within : ByteArray := prog_5_method_3_code
def yX3_within : MethodName := ⟨RX3, "within", "(III)Z"⟩
abbrev cX3_has : ByteArray := prog_5_method_4_code
def yX3_has : MethodName := ⟨RX3, "has", "(II)Z"⟩
abbrev cX3_size : ByteArray := prog_5_method_5_code
def yX3_size : MethodName := ⟨RX3, "size", "(I)I"⟩
abbrev cX3_letter : ByteArray := prog_5_method_6_code
def yX3_letter : MethodName := ⟨RX3, "letter", "(I)I"⟩
abbrev cX3_blank : ByteArray := prog_5_method_7_code
def yX3_blank : MethodName := ⟨RX3, "blank", "()I"⟩
abbrev cX3_delayBy : ByteArray := prog_5_method_8_code
def yX3_delayBy : MethodName := ⟨RX3, "delayBy", "(I)I"⟩
abbrev cX3_faultNow : ByteArray := prog_5_method_9_code
def yX3_faultNow : MethodName := ⟨RX3, "faultNow", "()I"⟩
abbrev cX3_fault : ByteArray := prog_5_method_10_code
def yX3_fault : MethodName := ⟨RX3, "fault", "()I"⟩
abbrev cX3_chest : ByteArray := prog_5_method_11_code
def yX3_chest : MethodName := ⟨RX3, "chest", "()I"⟩
abbrev cX3_face : ByteArray := prog_5_method_12_code
def yX3_face : MethodName := ⟨RX3, "face", "(I)I"⟩
abbrev cX3_isDrawer : ByteArray := prog_5_method_13_code
def yX3_isDrawer : MethodName := ⟨RX3, "isDrawer", "(I)Z"⟩
abbrev cX3_isDay : ByteArray := prog_5_method_14_code
def yX3_isDay : MethodName := ⟨RX3, "isDay", "(I)Z"⟩
abbrev cX3_aheadOf : ByteArray := prog_5_method_15_code
def yX3_aheadOf : MethodName := ⟨RX3, "aheadOf", "(I)I"⟩
abbrev cX3_puts : ByteArray := prog_5_method_16_code
def yX3_puts : MethodName := ⟨RX3, "puts", "(IIIZ)Z"⟩
abbrev cX3_putBy : ByteArray := prog_5_method_17_code
def yX3_putBy : MethodName := ⟨RX3, "putBy", "(II)I"⟩
abbrev cX3_firstWrong : ByteArray := prog_5_method_18_code
def yX3_firstWrong : MethodName := ⟨RX3, "firstWrong", "(IIII)I"⟩
abbrev cX3_isSo : ByteArray := prog_5_method_19_code
def yX3_isSo : MethodName := ⟨RX3, "isSo", "(II)Z"⟩
abbrev cX3_agreeing : ByteArray := prog_5_method_20_code
def yX3_agreeing : MethodName := ⟨RX3, "agreeing", "(I)I"⟩
abbrev cX3_cannotOf : ByteArray := prog_5_method_21_code
def yX3_cannotOf : MethodName := ⟨RX3, "cannotOf", "(I)I"⟩
abbrev cX3_leastOf : ByteArray := prog_5_method_22_code
def yX3_leastOf : MethodName := ⟨RX3, "leastOf", "(I)I"⟩
abbrev cX3_peopleOf : ByteArray := prog_5_method_23_code
def yX3_peopleOf : MethodName := ⟨RX3, "peopleOf", "(I)I"⟩
abbrev cX3_drawerNow : ByteArray := prog_5_method_24_code
def yX3_drawerNow : MethodName := ⟨RX3, "drawerNow", "(II)I"⟩
abbrev cX3_drawer : ByteArray := prog_5_method_25_code
def yX3_drawer : MethodName := ⟨RX3, "drawer", "(II)I"⟩
abbrev cX3_isPerson : ByteArray := prog_5_method_26_code
def yX3_isPerson : MethodName := ⟨RX3, "isPerson", "(I)Z"⟩
abbrev cX3_person : ByteArray := prog_5_method_27_code
def yX3_person : MethodName := ⟨RX3, "person", "(III)I"⟩
abbrev cX3_personNow : ByteArray := prog_5_method_28_code
def yX3_personNow : MethodName := ⟨RX3, "personNow", "(II)I"⟩
abbrev cX3_about : ByteArray := prog_5_method_29_code
def yX3_about : MethodName := ⟨RX3, "about", "(II)I"⟩
abbrev cX3_as : ByteArray := prog_5_method_30_code
def yX3_as : MethodName := ⟨RX3, "as", "(II)I"⟩
abbrev cX3_move : ByteArray := prog_5_method_31_code
def yX3_move : MethodName := ⟨RX3, "move", "(II)I"⟩
abbrev cX3_lay : ByteArray := prog_5_method_32_code
def yX3_lay : MethodName := ⟨RX3, "lay", "(IIZ)I"⟩
abbrev cX3_agrees : ByteArray := prog_5_method_33_code
def yX3_agrees : MethodName := ⟨RX3, "agrees", "(II)I"⟩
abbrev cX3_sureNow : ByteArray := prog_5_method_34_code
def yX3_sureNow : MethodName := ⟨RX3, "sureNow", "(II)I"⟩
abbrev cX3_sure : ByteArray := prog_5_method_35_code
def yX3_sure : MethodName := ⟨RX3, "sure", "(II)I"⟩
abbrev cX3_isEnough : ByteArray := prog_5_method_36_code
def yX3_isEnough : MethodName := ⟨RX3, "isEnough", "(III)Z"⟩
abbrev cX3_fewNow : ByteArray := prog_5_method_37_code
def yX3_fewNow : MethodName := ⟨RX3, "fewNow", "(III)I"⟩
abbrev cX3_few : ByteArray := prog_5_method_38_code
def yX3_few : MethodName := ⟨RX3, "few", "(III)I"⟩
abbrev cX3_found : ByteArray := prog_5_method_39_code
def yX3_found : MethodName := ⟨RX3, "found", "(IIZ)I"⟩
abbrev cX3_forget : ByteArray := prog_5_method_40_code
def yX3_forget : MethodName := ⟨RX3, "forget", "()I"⟩
abbrev cX3_isFound : ByteArray := prog_5_method_41_code
def yX3_isFound : MethodName := ⟨RX3, "isFound", "(II)Z"⟩
abbrev cX3_anyBy : ByteArray := prog_5_method_42_code
def yX3_anyBy : MethodName := ⟨RX3, "anyBy", "(II)Z"⟩
abbrev cX3_delaysOf : ByteArray := prog_5_method_43_code
def yX3_delaysOf : MethodName := ⟨RX3, "delaysOf", "(I)I"⟩
abbrev cX3_delays : ByteArray := prog_5_method_44_code
def yX3_delays : MethodName := ⟨RX3, "delays", "(I)I"⟩
abbrev cX3_whoNow : ByteArray := prog_5_method_45_code
def yX3_whoNow : MethodName := ⟨RX3, "whoNow", "(II)I"⟩
abbrev cX3_who : ByteArray := prog_5_method_46_code
def yX3_who : MethodName := ⟨RX3, "who", "(II)I"⟩
abbrev cX3_draw : ByteArray := prog_5_method_47_code
def yX3_draw : MethodName := ⟨RX3, "draw", "(I)I"⟩
abbrev cX3_anyLaid : ByteArray := prog_5_method_48_code
def yX3_anyLaid : MethodName := ⟨RX3, "anyLaid", "(II)Z"⟩
abbrev cX3_weeksNow : ByteArray := prog_5_method_49_code
def yX3_weeksNow : MethodName := ⟨RX3, "weeksNow", "(III)I"⟩
abbrev cX3_weeks : ByteArray := prog_5_method_50_code
def yX3_weeks : MethodName := ⟨RX3, "weeks", "(III)I"⟩
abbrev cX3_image : ByteArray := prog_5_method_51_code
def yX3_image : MethodName := ⟨RX3, "image", "()I"⟩
abbrev cX3_restore : ByteArray := prog_5_method_52_code
def yX3_restore : MethodName := ⟨RX3, "restore", "()I"⟩
abbrev cX3_agreeingDrawers : ByteArray := prog_5_method_53_code
def yX3_agreeingDrawers : MethodName := ⟨RX3, "agreeingDrawers", "()I"⟩
abbrev cX3_laidAll : ByteArray := prog_5_method_54_code
def yX3_laidAll : MethodName := ⟨RX3, "laidAll", "()I"⟩
abbrev cX3_howMany : ByteArray := prog_5_method_55_code
def yX3_howMany : MethodName := ⟨RX3, "howMany", "(I)I"⟩
abbrev cX3_count : ByteArray := prog_5_method_56_code
def yX3_count : MethodName := ⟨RX3, "count", "(I)I"⟩
abbrev cX3_mix : ByteArray := prog_5_method_57_code
def yX3_mix : MethodName := ⟨RX3, "mix", "(J)V"⟩
abbrev cX3_mixDrawer : ByteArray := prog_5_method_58_code
def yX3_mixDrawer : MethodName := ⟨RX3, "mixDrawer", "(I)V"⟩
abbrev cX3_digest : ByteArray := prog_5_method_59_code
def yX3_digest : MethodName := ⟨RX3, "digest", "()J"⟩
def RJ6 : String := "java/lang/Integer"
def TJ6 : u_T := fun k => match k with
  | _ => ("", "", "", false)
def tyJ6 : Nat → FieldType := fun k => match k with
  | _ => .int
abbrev wsJ60 : List Cond := u_ws RJ6 TJ6 0
theorem nmJ6 : ∀ a, a < 0 → ∀ b, b < 0 → a ≠ b → (TJ6 a).2.1 ≠ (TJ6 b).2.1 := by decide +kernel
theorem tyJ6_ok : ∀ k, k < 0 → parseFieldDescriptor (TJ6 k).2.2.1 = some (tyJ6 k) := by decide +kernel
abbrev cJ6_bitCount_0f7a4 : ByteArray := prog_6_method_49_code
def yJ6_bitCount_0f7a4 : MethodName := ⟨RJ6, "bitCount", "(I)I"⟩
def RL : String := "NineDrawersLaw"
abbrev cL_law : ByteArray := code
def yL_law : MethodName := ⟨RL, "law", "([I)Z"⟩
def wsX0_init : List Cond := .code yX0_init cX0_init 1 none :: ([.methodLink RX0 3 objectInit, .instanceMethod objectInit, .code objectInit ⟨#[0xb1]⟩ 1 none])
def wsX0_start : List Cond := .code yX0_start cX0_start 3 none :: ([.fieldLink RX0 9 "NineDrawers$Course" "ahead" "I", .fieldLink RX0 15 "NineDrawers$Course" "laid" "I", .fieldLink RX0 18 "NineDrawers$Course" "putIfEmpty" "I", .fieldLink RX0 21 "NineDrawers$Course" "putIfThere" "I"] ++ wsX00)
def wsX2_putsIfEmpty : List Cond := .code yX2_putsIfEmpty cX2_putsIfEmpty 2 (some .int) :: ([])
def wsX2_putsIfThere : List Cond := .code yX2_putsIfThere cX2_putsIfThere 2 (some .int) :: ([])
def wsX0_join : List Cond := .code yX0_join cX0_join 3 none :: ([.fieldLink RX0 18 "NineDrawers$Course" "putIfEmpty" "I", .fieldLink RX0 21 "NineDrawers$Course" "putIfThere" "I", .static yX2_putsIfEmpty, .initialized RX2, .code yX2_putsIfEmpty cX2_putsIfEmpty 2 (some .int), .static yX2_putsIfThere, .code yX2_putsIfThere cX2_putsIfThere 2 (some .int)] ++ wsX00)
def wsX0_mustBe : List Cond := .code yX0_mustBe cX0_mustBe 3 (some .int) :: ([.fieldLink RX0 18 "NineDrawers$Course" "putIfEmpty" "I", .fieldLink RX0 21 "NineDrawers$Course" "putIfThere" "I", .fieldLink RX0 15 "NineDrawers$Course" "laid" "I", .fieldLink RX0 9 "NineDrawers$Course" "ahead" "I"] ++ wsX00)
def wsX0_onlyWeek : List Cond := .code yX0_onlyWeek cX0_onlyWeek 3 (some .int) :: ([.methodLink RX0 31 yX0_mustBe, .instanceMethod yX0_mustBe, .selects RX0 yX0_mustBe yX0_mustBe, .initialized RX0, .code yX0_mustBe cX0_mustBe 3 (some .int), .fieldLink RX0 18 "NineDrawers$Course" "putIfEmpty" "I", .fieldLink RX0 21 "NineDrawers$Course" "putIfThere" "I", .fieldLink RX0 15 "NineDrawers$Course" "laid" "I", .fieldLink RX0 9 "NineDrawers$Course" "ahead" "I"] ++ wsX00)
def wsX0_settle : List Cond := .code yX0_settle cX0_settle 1 none :: ([.fieldLink RX0 9 "NineDrawers$Course" "ahead" "I", .fieldLink RX0 35 "NineDrawers$Course" "canHold" "I", .fieldLink RX0 38 "NineDrawers$Course" "canLack" "I", .fieldLink RX0 45 "NineDrawers$Course" "stuck" "I", .methodLink RX0 31 yX0_mustBe, .instanceMethod yX0_mustBe, .selects RX0 yX0_mustBe yX0_mustBe, .initialized RX0, .code yX0_mustBe cX0_mustBe 3 (some .int), .fieldLink RX0 18 "NineDrawers$Course" "putIfEmpty" "I", .fieldLink RX0 21 "NineDrawers$Course" "putIfThere" "I", .fieldLink RX0 15 "NineDrawers$Course" "laid" "I", .methodLink RX0 41 yX0_onlyWeek, .instanceMethod yX0_onlyWeek, .selects RX0 yX0_onlyWeek yX0_onlyWeek, .code yX0_onlyWeek cX0_onlyWeek 3 (some .int)] ++ wsX00)
def wsJ6_bitCount_0f7a4 : List Cond := .code yJ6_bitCount_0f7a4 cJ6_bitCount_0f7a4 1 (some .int) :: ([.constant RJ6 265 (1431655765), .constant RJ6 266 (858993459), .constant RJ6 267 (252645135)])
def wsX0_agreeing : List Cond := .code yX0_agreeing cX0_agreeing 1 (some .int) :: ([.fieldLink RX0 45 "NineDrawers$Course" "stuck" "I", .fieldLink RX0 35 "NineDrawers$Course" "canHold" "I", .fieldLink RX0 38 "NineDrawers$Course" "canLack" "I", .methodLink RX0 48 yJ6_bitCount_0f7a4, .static yJ6_bitCount_0f7a4, .initialized RJ6, .code yJ6_bitCount_0f7a4 cJ6_bitCount_0f7a4 1 (some .int), .constant RJ6 265 (1431655765), .constant RJ6 266 (858993459), .constant RJ6 267 (252645135)] ++ wsX00)
def wsX2_bitOf : List Cond := .code yX2_bitOf cX2_bitOf 2 (some .int) :: ([])
def wsX0_firstStuckDay : List Cond := .code yX0_firstStuckDay cX0_firstStuckDay 2 (some .int) :: ([.fieldLink RX0 45 "NineDrawers$Course" "stuck" "I", .static yX2_bitOf, .initialized RX2, .code yX2_bitOf cX2_bitOf 2 (some .int)] ++ wsX00)
def wsX0_leastWeek : List Cond := .code yX0_leastWeek cX0_leastWeek 1 (some .int) :: ([.fieldLink RX0 45 "NineDrawers$Course" "stuck" "I", .fieldLink RX0 38 "NineDrawers$Course" "canLack" "I"] ++ wsX00)
def wsX0_sureOn : List Cond := .code yX0_sureOn cX0_sureOn 2 (some .int) :: ([.fieldLink RX0 45 "NineDrawers$Course" "stuck" "I", .fieldLink RX0 35 "NineDrawers$Course" "canHold" "I", .fieldLink RX0 38 "NineDrawers$Course" "canLack" "I", .static yX2_bitOf, .initialized RX2, .code yX2_bitOf cX2_bitOf 2 (some .int)] ++ wsX00)
def wsX0_isSureOfAll : List Cond := .code yX0_isSureOfAll cX0_isSureOfAll 2 (some .boolean) :: ([.fieldLink RX0 45 "NineDrawers$Course" "stuck" "I", .fieldLink RX0 38 "NineDrawers$Course" "canLack" "I"] ++ wsX00)
def wsX0_allows : List Cond := .code yX0_allows cX0_allows 3 (some .boolean) :: ([.fieldLink RX0 45 "NineDrawers$Course" "stuck" "I", .fieldLink RX0 35 "NineDrawers$Course" "canHold" "I", .fieldLink RX0 38 "NineDrawers$Course" "canLack" "I"] ++ wsX00)
def wsX1_init : List Cond := .code yX1_init cX1_init 1 none :: ([.methodLink RX1 3 objectInit, .instanceMethod objectInit, .code objectInit ⟨#[0xb1]⟩ 1 none, .arrayClass .int, .fieldLink RX1 9 "NineDrawers$Hall" "kindOf" "[I", .fieldLink RX1 15 "NineDrawers$Hall" "drawerOf" "[I", .fieldLink RX1 18 "NineDrawers$Hall" "ownDayOf" "[I", .fieldLink RX1 21 "NineDrawers$Hall" "laidIn" "[I", .fieldLink RX1 24 "NineDrawers$Hall" "foundThere" "[I", .fieldLink RX1 27 "NineDrawers$Hall" "foundEmpty" "[I"] ++ wsX10)
def wsX1_clearFound : List Cond := .code yX1_clearFound cX1_clearFound 2 none :: ([.fieldLink RX1 40 "NineDrawers$Hall" "timesFound" "I", .fieldLink RX1 24 "NineDrawers$Hall" "foundThere" "[I", .fieldLink RX1 27 "NineDrawers$Hall" "foundEmpty" "[I"] ++ wsX10)
def wsX1_clear : List Cond := .code yX1_clear cX1_clear 3 none :: ([.fieldLink RX1 30 "NineDrawers$Hall" "facing" "I", .fieldLink RX1 34 "NineDrawers$Hall" "people" "I", .fieldLink RX1 21 "NineDrawers$Hall" "laidIn" "[I", .methodLink RX1 37 yX1_clearFound, .instanceMethod yX1_clearFound, .selects RX1 yX1_clearFound yX1_clearFound, .initialized RX1, .code yX1_clearFound cX1_clearFound 2 none, .fieldLink RX1 40 "NineDrawers$Hall" "timesFound" "I", .fieldLink RX1 24 "NineDrawers$Hall" "foundThere" "[I", .fieldLink RX1 27 "NineDrawers$Hall" "foundEmpty" "[I"] ++ wsX10)
def wsX1_takeFrom : List Cond := .code yX1_takeFrom cX1_takeFrom 3 none :: ([.fieldLink RX1 30 "NineDrawers$Hall" "facing" "I", .fieldLink RX1 34 "NineDrawers$Hall" "people" "I", .fieldLink RX1 40 "NineDrawers$Hall" "timesFound" "I", .fieldLink RX1 9 "NineDrawers$Hall" "kindOf" "[I", .fieldLink RX1 15 "NineDrawers$Hall" "drawerOf" "[I", .fieldLink RX1 18 "NineDrawers$Hall" "ownDayOf" "[I", .fieldLink RX1 21 "NineDrawers$Hall" "laidIn" "[I", .fieldLink RX1 24 "NineDrawers$Hall" "foundThere" "[I", .fieldLink RX1 27 "NineDrawers$Hall" "foundEmpty" "[I"] ++ wsX10)
def wsX1_peopleOf : List Cond := .code yX1_peopleOf cX1_peopleOf 4 (some .int) :: ([.fieldLink RX1 34 "NineDrawers$Hall" "people" "I", .fieldLink RX1 15 "NineDrawers$Hall" "drawerOf" "[I"] ++ wsX10)
def wsX1_thingsLaid : List Cond := .code yX1_thingsLaid cX1_thingsLaid 3 (some .int) :: ([.fieldLink RX1 21 "NineDrawers$Hall" "laidIn" "[I", .methodLink RX1 43 yJ6_bitCount_0f7a4, .static yJ6_bitCount_0f7a4, .initialized RJ6, .code yJ6_bitCount_0f7a4 cJ6_bitCount_0f7a4 1 (some .int), .constant RJ6 265 (1431655765), .constant RJ6 266 (858993459), .constant RJ6 267 (252645135)] ++ wsX10)
def wsX2_init_r1 : List Cond := [Cond.methodLink RX2 3 objectInit, Cond.instanceMethod objectInit, Cond.code objectInit ⟨#[0xb1]⟩ 1 none, Cond.arrayClass .int, Cond.fieldLink RX2 9 "NineDrawers" "page" "[I", Cond.fieldLink RX2 13 "NineDrawers" "delayOf" "[I", Cond.classLink RX2 16 RX1, Cond.instantiable RX1 9, Cond.initialized RX1, Cond.fieldLink RX2 19 "NineDrawers" "hall" "LNineDrawers$Hall;", Cond.fieldLink RX2 23 "NineDrawers" "kept" "LNineDrawers$Hall;", Cond.classLink RX2 26 RX0, Cond.instantiable RX0 7, Cond.initialized RX0, Cond.fieldLink RX2 29 "NineDrawers" "course" "LNineDrawers$Course;", Cond.instanceMethod yX1_init, Cond.code yX1_init cX1_init 1 none, Cond.methodLink RX1 3 objectInit, Cond.fieldLink RX1 9 "NineDrawers$Hall" "kindOf" "[I", Cond.fieldLink RX1 15 "NineDrawers$Hall" "drawerOf" "[I", Cond.fieldLink RX1 18 "NineDrawers$Hall" "ownDayOf" "[I", Cond.fieldLink RX1 21 "NineDrawers$Hall" "laidIn" "[I", Cond.fieldLink RX1 24 "NineDrawers$Hall" "foundThere" "[I", Cond.fieldLink RX1 27 "NineDrawers$Hall" "foundEmpty" "[I"]
def wsX2_init_r2 : List Cond := [Cond.instanceMethod yX0_init, Cond.code yX0_init cX0_init 1 none, Cond.methodLink RX0 3 objectInit]
def wsX2_init : List Cond := .code yX2_init cX2_init 1 none :: ((wsX2_init_r1 ++ wsX2_init_r2) ++ wsX20 ++ wsX10 ++ wsX00)
def wsX2_letter : List Cond := .code yX2_letter cX2_letter 2 (some .int) :: ([.fieldLink RX2 33 "NineDrawers" "pageLength" "I", .fieldLink RX2 9 "NineDrawers" "page" "[I"] ++ wsX20)
def wsX2_blank : List Cond := .code yX2_blank cX2_blank 2 (some .int) :: ([.fieldLink RX2 33 "NineDrawers" "pageLength" "I"] ++ wsX20)
def wsX2_fits : List Cond := .code yX2_fits cX2_fits 2 (some .boolean) :: ([])
def wsX2_fittingLetters : List Cond := .code yX2_fittingLetters cX2_fittingLetters 2 (some .int) :: ([.fieldLink RX2 33 "NineDrawers" "pageLength" "I", .fieldLink RX2 9 "NineDrawers" "page" "[I", .methodLink RX2 222 yX2_fits, .static yX2_fits, .initialized RX2, .code yX2_fits cX2_fits 2 (some .boolean)] ++ wsX20)
def wsX2_fault : List Cond := .code yX2_fault cX2_fault 1 (some .int) :: ([.methodLink RX2 37 yX2_fittingLetters, .instanceMethod yX2_fittingLetters, .selects RX2 yX2_fittingLetters yX2_fittingLetters, .initialized RX2, .code yX2_fittingLetters cX2_fittingLetters 2 (some .int), .fieldLink RX2 33 "NineDrawers" "pageLength" "I", .fieldLink RX2 9 "NineDrawers" "page" "[I", .methodLink RX2 222 yX2_fits, .static yX2_fits, .code yX2_fits cX2_fits 2 (some .boolean)] ++ wsX20)
def wsX2_delayByLetter : List Cond := .code yX2_delayByLetter cX2_delayByLetter 1 (some .int) :: ([])
def wsX2_chest_r1 : List Cond := [Cond.fieldLink RX2 33 "NineDrawers" "pageLength" "I", Cond.fieldLink RX2 13 "NineDrawers" "delayOf" "[I", Cond.fieldLink RX2 9 "NineDrawers" "page" "[I", Cond.fieldLink RX2 19 "NineDrawers" "hall" "LNineDrawers$Hall;", Cond.fieldLink RX2 49 "NineDrawers" "hasChest" "Z", Cond.fieldLink RX2 53 "NineDrawers" "hasImage" "Z", Cond.fieldLink RX2 56 "NineDrawers" "chestsRead" "I", Cond.methodLink RX2 37 yX2_fittingLetters, Cond.instanceMethod yX2_fittingLetters, Cond.selects RX2 yX2_fittingLetters yX2_fittingLetters, Cond.initialized RX2, Cond.code yX2_fittingLetters cX2_fittingLetters 2 (some .int), Cond.methodLink RX2 222 yX2_fits, Cond.static yX2_fits, Cond.code yX2_fits cX2_fits 2 (some .boolean), Cond.methodLink RX2 41 yX2_delayByLetter, Cond.static yX2_delayByLetter, Cond.code yX2_delayByLetter cX2_delayByLetter 1 (some .int), Cond.methodLink RX2 45 yX1_clear, Cond.instanceMethod yX1_clear, Cond.selects RX1 yX1_clear yX1_clear, Cond.initialized RX1, Cond.code yX1_clear cX1_clear 3 none, Cond.fieldLink RX1 30 "NineDrawers$Hall" "facing" "I"]
def wsX2_chest_r2 : List Cond := [Cond.fieldLink RX1 34 "NineDrawers$Hall" "people" "I", Cond.fieldLink RX1 21 "NineDrawers$Hall" "laidIn" "[I", Cond.methodLink RX1 37 yX1_clearFound, Cond.instanceMethod yX1_clearFound, Cond.selects RX1 yX1_clearFound yX1_clearFound, Cond.code yX1_clearFound cX1_clearFound 2 none, Cond.fieldLink RX1 40 "NineDrawers$Hall" "timesFound" "I", Cond.fieldLink RX1 24 "NineDrawers$Hall" "foundThere" "[I", Cond.fieldLink RX1 27 "NineDrawers$Hall" "foundEmpty" "[I"]
def wsX2_chest : List Cond := .code yX2_chest cX2_chest 3 (some .int) :: ((wsX2_chest_r1 ++ wsX2_chest_r2) ++ wsX20 ++ wsX10)
def wsX2_face : List Cond := .code yX2_face cX2_face 3 (some .int) :: ([.fieldLink RX2 49 "NineDrawers" "hasChest" "Z", .fieldLink RX2 19 "NineDrawers" "hall" "LNineDrawers$Hall;", .fieldLink RX2 59 "NineDrawers$Hall" "facing" "I"] ++ wsX20 ++ wsX10)
def wsX2_isDrawer : List Cond := .code yX2_isDrawer cX2_isDrawer 2 (some .boolean) :: ([.fieldLink RX2 49 "NineDrawers" "hasChest" "Z"] ++ wsX20)
def wsX2_aheadOf : List Cond := .code yX2_aheadOf cX2_aheadOf 2 (some .int) :: ([.fieldLink RX2 19 "NineDrawers" "hall" "LNineDrawers$Hall;", .fieldLink RX2 59 "NineDrawers$Hall" "facing" "I", .fieldLink RX2 13 "NineDrawers" "delayOf" "[I"] ++ wsX20 ++ wsX10)
def wsX2_courseWithout_r1 : List Cond := [Cond.fieldLink RX2 29 "NineDrawers" "course" "LNineDrawers$Course;", Cond.fieldLink RX2 19 "NineDrawers" "hall" "LNineDrawers$Hall;", Cond.fieldLink RX2 72 "NineDrawers$Hall" "laidIn" "[I", Cond.fieldLink RX2 94 "NineDrawers$Hall" "people" "I", Cond.fieldLink RX2 100 "NineDrawers$Hall" "drawerOf" "[I", Cond.fieldLink RX2 97 "NineDrawers$Hall" "kindOf" "[I", Cond.fieldLink RX2 103 "NineDrawers$Hall" "ownDayOf" "[I", Cond.methodLink RX2 66 yX2_aheadOf, Cond.instanceMethod yX2_aheadOf, Cond.selects RX2 yX2_aheadOf yX2_aheadOf, Cond.initialized RX2, Cond.code yX2_aheadOf cX2_aheadOf 2 (some .int), Cond.fieldLink RX2 59 "NineDrawers$Hall" "facing" "I", Cond.fieldLink RX2 13 "NineDrawers" "delayOf" "[I", Cond.methodLink RX2 225 yX0_start, Cond.instanceMethod yX0_start, Cond.selects RX0 yX0_start yX0_start, Cond.initialized RX0, Cond.code yX0_start cX0_start 3 none, Cond.fieldLink RX0 9 "NineDrawers$Course" "ahead" "I", Cond.fieldLink RX0 15 "NineDrawers$Course" "laid" "I", Cond.fieldLink RX0 18 "NineDrawers$Course" "putIfEmpty" "I", Cond.fieldLink RX0 21 "NineDrawers$Course" "putIfThere" "I", Cond.methodLink RX2 229 yX0_join]
def wsX2_courseWithout_r2 : List Cond := [Cond.instanceMethod yX0_join, Cond.selects RX0 yX0_join yX0_join, Cond.code yX0_join cX0_join 3 none, Cond.static yX2_putsIfEmpty, Cond.code yX2_putsIfEmpty cX2_putsIfEmpty 2 (some .int), Cond.static yX2_putsIfThere, Cond.code yX2_putsIfThere cX2_putsIfThere 2 (some .int)]
def wsX2_courseWithout : List Cond := .code yX2_courseWithout cX2_courseWithout 4 (some (.object "NineDrawers$Course")) :: ((wsX2_courseWithout_r1 ++ wsX2_courseWithout_r2) ++ wsX20 ++ wsX10 ++ wsX00)
def wsX2_courseOf_r1 : List Cond := [Cond.methodLink RX2 123 yX2_courseWithout, Cond.instanceMethod yX2_courseWithout, Cond.selects RX2 yX2_courseWithout yX2_courseWithout, Cond.initialized RX2, Cond.code yX2_courseWithout cX2_courseWithout 4 (some (.object "NineDrawers$Course")), Cond.fieldLink RX2 29 "NineDrawers" "course" "LNineDrawers$Course;", Cond.fieldLink RX2 19 "NineDrawers" "hall" "LNineDrawers$Hall;", Cond.fieldLink RX2 72 "NineDrawers$Hall" "laidIn" "[I", Cond.fieldLink RX2 94 "NineDrawers$Hall" "people" "I", Cond.fieldLink RX2 100 "NineDrawers$Hall" "drawerOf" "[I", Cond.fieldLink RX2 97 "NineDrawers$Hall" "kindOf" "[I", Cond.fieldLink RX2 103 "NineDrawers$Hall" "ownDayOf" "[I", Cond.methodLink RX2 66 yX2_aheadOf, Cond.instanceMethod yX2_aheadOf, Cond.selects RX2 yX2_aheadOf yX2_aheadOf, Cond.code yX2_aheadOf cX2_aheadOf 2 (some .int), Cond.fieldLink RX2 59 "NineDrawers$Hall" "facing" "I", Cond.fieldLink RX2 13 "NineDrawers" "delayOf" "[I", Cond.methodLink RX2 225 yX0_start, Cond.instanceMethod yX0_start, Cond.selects RX0 yX0_start yX0_start, Cond.initialized RX0, Cond.code yX0_start cX0_start 3 none, Cond.fieldLink RX0 9 "NineDrawers$Course" "ahead" "I"]
def wsX2_courseOf_r2 : List Cond := [Cond.fieldLink RX0 15 "NineDrawers$Course" "laid" "I", Cond.fieldLink RX0 18 "NineDrawers$Course" "putIfEmpty" "I", Cond.fieldLink RX0 21 "NineDrawers$Course" "putIfThere" "I", Cond.methodLink RX2 229 yX0_join, Cond.instanceMethod yX0_join, Cond.selects RX0 yX0_join yX0_join, Cond.code yX0_join cX0_join 3 none, Cond.static yX2_putsIfEmpty, Cond.code yX2_putsIfEmpty cX2_putsIfEmpty 2 (some .int), Cond.static yX2_putsIfThere, Cond.code yX2_putsIfThere cX2_putsIfThere 2 (some .int), Cond.methodLink RX2 160 yX0_settle, Cond.instanceMethod yX0_settle, Cond.selects RX0 yX0_settle yX0_settle, Cond.code yX0_settle cX0_settle 1 none, Cond.fieldLink RX0 35 "NineDrawers$Course" "canHold" "I", Cond.fieldLink RX0 38 "NineDrawers$Course" "canLack" "I", Cond.fieldLink RX0 45 "NineDrawers$Course" "stuck" "I", Cond.methodLink RX0 31 yX0_mustBe, Cond.instanceMethod yX0_mustBe, Cond.selects RX0 yX0_mustBe yX0_mustBe, Cond.code yX0_mustBe cX0_mustBe 3 (some .int), Cond.methodLink RX0 41 yX0_onlyWeek, Cond.instanceMethod yX0_onlyWeek]
def wsX2_courseOf_r3 : List Cond := [Cond.selects RX0 yX0_onlyWeek yX0_onlyWeek, Cond.code yX0_onlyWeek cX0_onlyWeek 3 (some .int)]
def wsX2_courseOf : List Cond := .code yX2_courseOf cX2_courseOf 3 (some (.object "NineDrawers$Course")) :: ((wsX2_courseOf_r1 ++ (wsX2_courseOf_r2 ++ wsX2_courseOf_r3)) ++ wsX20 ++ wsX10 ++ wsX00)
def wsX2_drawer_r1 : List Cond := [Cond.fieldLink RX2 13 "NineDrawers" "delayOf" "[I", Cond.fieldLink RX2 19 "NineDrawers" "hall" "LNineDrawers$Hall;", Cond.fieldLink RX2 72 "NineDrawers$Hall" "laidIn" "[I", Cond.methodLink RX2 62 yX2_isDrawer, Cond.instanceMethod yX2_isDrawer, Cond.selects RX2 yX2_isDrawer yX2_isDrawer, Cond.initialized RX2, Cond.code yX2_isDrawer cX2_isDrawer 2 (some .boolean), Cond.fieldLink RX2 49 "NineDrawers" "hasChest" "Z", Cond.methodLink RX2 66 yX2_aheadOf, Cond.instanceMethod yX2_aheadOf, Cond.selects RX2 yX2_aheadOf yX2_aheadOf, Cond.code yX2_aheadOf cX2_aheadOf 2 (some .int), Cond.fieldLink RX2 59 "NineDrawers$Hall" "facing" "I", Cond.methodLink RX2 69 yX1_peopleOf, Cond.instanceMethod yX1_peopleOf, Cond.selects RX1 yX1_peopleOf yX1_peopleOf, Cond.initialized RX1, Cond.code yX1_peopleOf cX1_peopleOf 4 (some .int), Cond.fieldLink RX1 34 "NineDrawers$Hall" "people" "I", Cond.fieldLink RX1 15 "NineDrawers$Hall" "drawerOf" "[I", Cond.methodLink RX2 75 yX2_courseOf, Cond.instanceMethod yX2_courseOf, Cond.selects RX2 yX2_courseOf yX2_courseOf]
def wsX2_drawer_r2 : List Cond := [Cond.code yX2_courseOf cX2_courseOf 3 (some (.object "NineDrawers$Course")), Cond.methodLink RX2 123 yX2_courseWithout, Cond.instanceMethod yX2_courseWithout, Cond.selects RX2 yX2_courseWithout yX2_courseWithout, Cond.code yX2_courseWithout cX2_courseWithout 4 (some (.object "NineDrawers$Course")), Cond.fieldLink RX2 29 "NineDrawers" "course" "LNineDrawers$Course;", Cond.fieldLink RX2 94 "NineDrawers$Hall" "people" "I", Cond.fieldLink RX2 100 "NineDrawers$Hall" "drawerOf" "[I", Cond.fieldLink RX2 97 "NineDrawers$Hall" "kindOf" "[I", Cond.fieldLink RX2 103 "NineDrawers$Hall" "ownDayOf" "[I", Cond.methodLink RX2 225 yX0_start, Cond.instanceMethod yX0_start, Cond.selects RX0 yX0_start yX0_start, Cond.initialized RX0, Cond.code yX0_start cX0_start 3 none, Cond.fieldLink RX0 9 "NineDrawers$Course" "ahead" "I", Cond.fieldLink RX0 15 "NineDrawers$Course" "laid" "I", Cond.fieldLink RX0 18 "NineDrawers$Course" "putIfEmpty" "I", Cond.fieldLink RX0 21 "NineDrawers$Course" "putIfThere" "I", Cond.methodLink RX2 229 yX0_join, Cond.instanceMethod yX0_join, Cond.selects RX0 yX0_join yX0_join, Cond.code yX0_join cX0_join 3 none, Cond.static yX2_putsIfEmpty]
def wsX2_drawer_r3 : List Cond := [Cond.code yX2_putsIfEmpty cX2_putsIfEmpty 2 (some .int), Cond.static yX2_putsIfThere, Cond.code yX2_putsIfThere cX2_putsIfThere 2 (some .int), Cond.methodLink RX2 160 yX0_settle, Cond.instanceMethod yX0_settle, Cond.selects RX0 yX0_settle yX0_settle, Cond.code yX0_settle cX0_settle 1 none, Cond.fieldLink RX0 35 "NineDrawers$Course" "canHold" "I", Cond.fieldLink RX0 38 "NineDrawers$Course" "canLack" "I", Cond.fieldLink RX0 45 "NineDrawers$Course" "stuck" "I", Cond.methodLink RX0 31 yX0_mustBe, Cond.instanceMethod yX0_mustBe, Cond.selects RX0 yX0_mustBe yX0_mustBe, Cond.code yX0_mustBe cX0_mustBe 3 (some .int), Cond.methodLink RX0 41 yX0_onlyWeek, Cond.instanceMethod yX0_onlyWeek, Cond.selects RX0 yX0_onlyWeek yX0_onlyWeek, Cond.code yX0_onlyWeek cX0_onlyWeek 3 (some .int), Cond.methodLink RX2 79 yX0_agreeing, Cond.instanceMethod yX0_agreeing, Cond.selects RX0 yX0_agreeing yX0_agreeing, Cond.code yX0_agreeing cX0_agreeing 1 (some .int), Cond.methodLink RX0 48 yJ6_bitCount_0f7a4, Cond.static yJ6_bitCount_0f7a4]
def wsX2_drawer_r4 : List Cond := [Cond.initialized RJ6, Cond.code yJ6_bitCount_0f7a4 cJ6_bitCount_0f7a4 1 (some .int), Cond.constant RJ6 265 (1431655765), Cond.constant RJ6 266 (858993459), Cond.constant RJ6 267 (252645135), Cond.methodLink RX2 82 yX0_firstStuckDay, Cond.instanceMethod yX0_firstStuckDay, Cond.selects RX0 yX0_firstStuckDay yX0_firstStuckDay, Cond.code yX0_firstStuckDay cX0_firstStuckDay 2 (some .int), Cond.static yX2_bitOf, Cond.code yX2_bitOf cX2_bitOf 2 (some .int), Cond.methodLink RX2 85 yX0_leastWeek, Cond.instanceMethod yX0_leastWeek, Cond.selects RX0 yX0_leastWeek yX0_leastWeek, Cond.code yX0_leastWeek cX0_leastWeek 1 (some .int)]
def wsX2_drawer : List Cond := .code yX2_drawer cX2_drawer 3 (some .int) :: ((wsX2_drawer_r1 ++ (wsX2_drawer_r2 ++ (wsX2_drawer_r3 ++ wsX2_drawer_r4))) ++ wsX20 ++ wsX10 ++ wsX00)
def wsX2_isKind : List Cond := .code yX2_isKind cX2_isKind 1 (some .boolean) :: ([])
def wsX2_isDay : List Cond := .code yX2_isDay cX2_isDay 1 (some .boolean) :: ([])
def wsX2_person : List Cond := .code yX2_person cX2_person 5 (some .int) :: ([.fieldLink RX2 19 "NineDrawers" "hall" "LNineDrawers$Hall;", .fieldLink RX2 94 "NineDrawers$Hall" "people" "I", .fieldLink RX2 97 "NineDrawers$Hall" "kindOf" "[I", .fieldLink RX2 100 "NineDrawers$Hall" "drawerOf" "[I", .fieldLink RX2 103 "NineDrawers$Hall" "ownDayOf" "[I", .methodLink RX2 88 yX2_isKind, .static yX2_isKind, .initialized RX2, .code yX2_isKind cX2_isKind 1 (some .boolean), .methodLink RX2 62 yX2_isDrawer, .instanceMethod yX2_isDrawer, .selects RX2 yX2_isDrawer yX2_isDrawer, .code yX2_isDrawer cX2_isDrawer 2 (some .boolean), .fieldLink RX2 49 "NineDrawers" "hasChest" "Z", .methodLink RX2 91 yX2_isDay, .static yX2_isDay, .code yX2_isDay cX2_isDay 1 (some .boolean)] ++ wsX20 ++ wsX10)
def wsX2_isPerson : List Cond := .code yX2_isPerson cX2_isPerson 2 (some .boolean) :: ([.fieldLink RX2 19 "NineDrawers" "hall" "LNineDrawers$Hall;", .fieldLink RX2 94 "NineDrawers$Hall" "people" "I"] ++ wsX20 ++ wsX10)
def wsX2_about : List Cond := .code yX2_about cX2_about 5 (some .int) :: ([.fieldLink RX2 19 "NineDrawers" "hall" "LNineDrawers$Hall;", .fieldLink RX2 97 "NineDrawers$Hall" "kindOf" "[I", .fieldLink RX2 103 "NineDrawers$Hall" "ownDayOf" "[I", .fieldLink RX2 100 "NineDrawers$Hall" "drawerOf" "[I", .methodLink RX2 106 yX2_isPerson, .instanceMethod yX2_isPerson, .selects RX2 yX2_isPerson yX2_isPerson, .initialized RX2, .code yX2_isPerson cX2_isPerson 2 (some .boolean), .fieldLink RX2 94 "NineDrawers$Hall" "people" "I", .methodLink RX2 109 yX2_putsIfEmpty, .static yX2_putsIfEmpty, .code yX2_putsIfEmpty cX2_putsIfEmpty 2 (some .int), .methodLink RX2 113 yX2_bitOf, .static yX2_bitOf, .code yX2_bitOf cX2_bitOf 2 (some .int), .methodLink RX2 116 yX2_putsIfThere, .static yX2_putsIfThere, .code yX2_putsIfThere cX2_putsIfThere 2 (some .int)] ++ wsX20 ++ wsX10)
def wsX2_isOfKind : List Cond := .code yX2_isOfKind cX2_isOfKind 2 (some .boolean) :: ([])
def wsX2_as : List Cond := .code yX2_as cX2_as 3 (some .int) :: ([.fieldLink RX2 19 "NineDrawers" "hall" "LNineDrawers$Hall;", .fieldLink RX2 97 "NineDrawers$Hall" "kindOf" "[I", .methodLink RX2 106 yX2_isPerson, .instanceMethod yX2_isPerson, .selects RX2 yX2_isPerson yX2_isPerson, .initialized RX2, .code yX2_isPerson cX2_isPerson 2 (some .boolean), .fieldLink RX2 94 "NineDrawers$Hall" "people" "I", .methodLink RX2 88 yX2_isKind, .static yX2_isKind, .code yX2_isKind cX2_isKind 1 (some .boolean), .methodLink RX2 119 yX2_isOfKind, .static yX2_isOfKind, .code yX2_isOfKind cX2_isOfKind 2 (some .boolean)] ++ wsX20 ++ wsX10)
def wsX2_move : List Cond := .code yX2_move cX2_move 4 (some .int) :: ([.fieldLink RX2 19 "NineDrawers" "hall" "LNineDrawers$Hall;", .fieldLink RX2 100 "NineDrawers$Hall" "drawerOf" "[I", .methodLink RX2 106 yX2_isPerson, .instanceMethod yX2_isPerson, .selects RX2 yX2_isPerson yX2_isPerson, .initialized RX2, .code yX2_isPerson cX2_isPerson 2 (some .boolean), .fieldLink RX2 94 "NineDrawers$Hall" "people" "I", .methodLink RX2 62 yX2_isDrawer, .instanceMethod yX2_isDrawer, .selects RX2 yX2_isDrawer yX2_isDrawer, .code yX2_isDrawer cX2_isDrawer 2 (some .boolean), .fieldLink RX2 49 "NineDrawers" "hasChest" "Z"] ++ wsX20 ++ wsX10)
def wsX2_lay : List Cond := .code yX2_lay cX2_lay 5 (some .int) :: ([.fieldLink RX2 19 "NineDrawers" "hall" "LNineDrawers$Hall;", .fieldLink RX2 72 "NineDrawers$Hall" "laidIn" "[I", .methodLink RX2 62 yX2_isDrawer, .instanceMethod yX2_isDrawer, .selects RX2 yX2_isDrawer yX2_isDrawer, .initialized RX2, .code yX2_isDrawer cX2_isDrawer 2 (some .boolean), .fieldLink RX2 49 "NineDrawers" "hasChest" "Z", .methodLink RX2 91 yX2_isDay, .static yX2_isDay, .code yX2_isDay cX2_isDay 1 (some .boolean), .methodLink RX2 113 yX2_bitOf, .static yX2_bitOf, .code yX2_bitOf cX2_bitOf 2 (some .int)] ++ wsX20 ++ wsX10)
def wsX2_agrees_r1 : List Cond := [Cond.methodLink RX2 62 yX2_isDrawer, Cond.instanceMethod yX2_isDrawer, Cond.selects RX2 yX2_isDrawer yX2_isDrawer, Cond.initialized RX2, Cond.code yX2_isDrawer cX2_isDrawer 2 (some .boolean), Cond.fieldLink RX2 49 "NineDrawers" "hasChest" "Z", Cond.methodLink RX2 123 yX2_courseWithout, Cond.instanceMethod yX2_courseWithout, Cond.selects RX2 yX2_courseWithout yX2_courseWithout, Cond.code yX2_courseWithout cX2_courseWithout 4 (some (.object "NineDrawers$Course")), Cond.fieldLink RX2 29 "NineDrawers" "course" "LNineDrawers$Course;", Cond.fieldLink RX2 19 "NineDrawers" "hall" "LNineDrawers$Hall;", Cond.fieldLink RX2 72 "NineDrawers$Hall" "laidIn" "[I", Cond.fieldLink RX2 94 "NineDrawers$Hall" "people" "I", Cond.fieldLink RX2 100 "NineDrawers$Hall" "drawerOf" "[I", Cond.fieldLink RX2 97 "NineDrawers$Hall" "kindOf" "[I", Cond.fieldLink RX2 103 "NineDrawers$Hall" "ownDayOf" "[I", Cond.methodLink RX2 66 yX2_aheadOf, Cond.instanceMethod yX2_aheadOf, Cond.selects RX2 yX2_aheadOf yX2_aheadOf, Cond.code yX2_aheadOf cX2_aheadOf 2 (some .int), Cond.fieldLink RX2 59 "NineDrawers$Hall" "facing" "I", Cond.fieldLink RX2 13 "NineDrawers" "delayOf" "[I", Cond.methodLink RX2 225 yX0_start]
def wsX2_agrees_r2 : List Cond := [Cond.instanceMethod yX0_start, Cond.selects RX0 yX0_start yX0_start, Cond.initialized RX0, Cond.code yX0_start cX0_start 3 none, Cond.fieldLink RX0 9 "NineDrawers$Course" "ahead" "I", Cond.fieldLink RX0 15 "NineDrawers$Course" "laid" "I", Cond.fieldLink RX0 18 "NineDrawers$Course" "putIfEmpty" "I", Cond.fieldLink RX0 21 "NineDrawers$Course" "putIfThere" "I", Cond.methodLink RX2 229 yX0_join, Cond.instanceMethod yX0_join, Cond.selects RX0 yX0_join yX0_join, Cond.code yX0_join cX0_join 3 none, Cond.static yX2_putsIfEmpty, Cond.code yX2_putsIfEmpty cX2_putsIfEmpty 2 (some .int), Cond.static yX2_putsIfThere, Cond.code yX2_putsIfThere cX2_putsIfThere 2 (some .int), Cond.methodLink RX2 127 yX0_mustBe, Cond.instanceMethod yX0_mustBe, Cond.selects RX0 yX0_mustBe yX0_mustBe, Cond.code yX0_mustBe cX0_mustBe 3 (some .int)]
def wsX2_agrees : List Cond := .code yX2_agrees cX2_agrees 3 (some .int) :: ((wsX2_agrees_r1 ++ wsX2_agrees_r2) ++ wsX20 ++ wsX10 ++ wsX00)
def wsX2_sure_r1 : List Cond := [Cond.methodLink RX2 62 yX2_isDrawer, Cond.instanceMethod yX2_isDrawer, Cond.selects RX2 yX2_isDrawer yX2_isDrawer, Cond.initialized RX2, Cond.code yX2_isDrawer cX2_isDrawer 2 (some .boolean), Cond.fieldLink RX2 49 "NineDrawers" "hasChest" "Z", Cond.methodLink RX2 91 yX2_isDay, Cond.static yX2_isDay, Cond.code yX2_isDay cX2_isDay 1 (some .boolean), Cond.methodLink RX2 75 yX2_courseOf, Cond.instanceMethod yX2_courseOf, Cond.selects RX2 yX2_courseOf yX2_courseOf, Cond.code yX2_courseOf cX2_courseOf 3 (some (.object "NineDrawers$Course")), Cond.methodLink RX2 123 yX2_courseWithout, Cond.instanceMethod yX2_courseWithout, Cond.selects RX2 yX2_courseWithout yX2_courseWithout, Cond.code yX2_courseWithout cX2_courseWithout 4 (some (.object "NineDrawers$Course")), Cond.fieldLink RX2 29 "NineDrawers" "course" "LNineDrawers$Course;", Cond.fieldLink RX2 19 "NineDrawers" "hall" "LNineDrawers$Hall;", Cond.fieldLink RX2 72 "NineDrawers$Hall" "laidIn" "[I", Cond.fieldLink RX2 94 "NineDrawers$Hall" "people" "I", Cond.fieldLink RX2 100 "NineDrawers$Hall" "drawerOf" "[I", Cond.fieldLink RX2 97 "NineDrawers$Hall" "kindOf" "[I", Cond.fieldLink RX2 103 "NineDrawers$Hall" "ownDayOf" "[I"]
def wsX2_sure_r2 : List Cond := [Cond.methodLink RX2 66 yX2_aheadOf, Cond.instanceMethod yX2_aheadOf, Cond.selects RX2 yX2_aheadOf yX2_aheadOf, Cond.code yX2_aheadOf cX2_aheadOf 2 (some .int), Cond.fieldLink RX2 59 "NineDrawers$Hall" "facing" "I", Cond.fieldLink RX2 13 "NineDrawers" "delayOf" "[I", Cond.methodLink RX2 225 yX0_start, Cond.instanceMethod yX0_start, Cond.selects RX0 yX0_start yX0_start, Cond.initialized RX0, Cond.code yX0_start cX0_start 3 none, Cond.fieldLink RX0 9 "NineDrawers$Course" "ahead" "I", Cond.fieldLink RX0 15 "NineDrawers$Course" "laid" "I", Cond.fieldLink RX0 18 "NineDrawers$Course" "putIfEmpty" "I", Cond.fieldLink RX0 21 "NineDrawers$Course" "putIfThere" "I", Cond.methodLink RX2 229 yX0_join, Cond.instanceMethod yX0_join, Cond.selects RX0 yX0_join yX0_join, Cond.code yX0_join cX0_join 3 none, Cond.static yX2_putsIfEmpty, Cond.code yX2_putsIfEmpty cX2_putsIfEmpty 2 (some .int), Cond.static yX2_putsIfThere, Cond.code yX2_putsIfThere cX2_putsIfThere 2 (some .int), Cond.methodLink RX2 160 yX0_settle]
def wsX2_sure_r3 : List Cond := [Cond.instanceMethod yX0_settle, Cond.selects RX0 yX0_settle yX0_settle, Cond.code yX0_settle cX0_settle 1 none, Cond.fieldLink RX0 35 "NineDrawers$Course" "canHold" "I", Cond.fieldLink RX0 38 "NineDrawers$Course" "canLack" "I", Cond.fieldLink RX0 45 "NineDrawers$Course" "stuck" "I", Cond.methodLink RX0 31 yX0_mustBe, Cond.instanceMethod yX0_mustBe, Cond.selects RX0 yX0_mustBe yX0_mustBe, Cond.code yX0_mustBe cX0_mustBe 3 (some .int), Cond.methodLink RX0 41 yX0_onlyWeek, Cond.instanceMethod yX0_onlyWeek, Cond.selects RX0 yX0_onlyWeek yX0_onlyWeek, Cond.code yX0_onlyWeek cX0_onlyWeek 3 (some .int), Cond.methodLink RX2 130 yX0_sureOn, Cond.instanceMethod yX0_sureOn, Cond.selects RX0 yX0_sureOn yX0_sureOn, Cond.code yX0_sureOn cX0_sureOn 2 (some .int), Cond.static yX2_bitOf, Cond.code yX2_bitOf cX2_bitOf 2 (some .int)]
def wsX2_sure : List Cond := .code yX2_sure cX2_sure 3 (some .int) :: ((wsX2_sure_r1 ++ (wsX2_sure_r2 ++ wsX2_sure_r3)) ++ wsX20 ++ wsX10 ++ wsX00)
def wsX2_fewestLaid_r1 : List Cond := [Cond.fieldLink RX2 171 "NineDrawers$Course" "laid" "I", Cond.methodLink RX2 140 yJ6_bitCount_0f7a4, Cond.static yJ6_bitCount_0f7a4, Cond.initialized RJ6, Cond.code yJ6_bitCount_0f7a4 cJ6_bitCount_0f7a4 1 (some .int), Cond.constant RJ6 265 (1431655765), Cond.constant RJ6 266 (858993459), Cond.constant RJ6 267 (252645135), Cond.methodLink RX2 160 yX0_settle, Cond.instanceMethod yX0_settle, Cond.selects RX0 yX0_settle yX0_settle, Cond.initialized RX0, Cond.code yX0_settle cX0_settle 1 none, Cond.fieldLink RX0 9 "NineDrawers$Course" "ahead" "I", Cond.fieldLink RX0 35 "NineDrawers$Course" "canHold" "I", Cond.fieldLink RX0 38 "NineDrawers$Course" "canLack" "I", Cond.fieldLink RX0 45 "NineDrawers$Course" "stuck" "I", Cond.methodLink RX0 31 yX0_mustBe, Cond.instanceMethod yX0_mustBe, Cond.selects RX0 yX0_mustBe yX0_mustBe, Cond.code yX0_mustBe cX0_mustBe 3 (some .int), Cond.fieldLink RX0 18 "NineDrawers$Course" "putIfEmpty" "I", Cond.fieldLink RX0 21 "NineDrawers$Course" "putIfThere" "I", Cond.fieldLink RX0 15 "NineDrawers$Course" "laid" "I"]
def wsX2_fewestLaid_r2 : List Cond := [Cond.methodLink RX0 41 yX0_onlyWeek, Cond.instanceMethod yX0_onlyWeek, Cond.selects RX0 yX0_onlyWeek yX0_onlyWeek, Cond.code yX0_onlyWeek cX0_onlyWeek 3 (some .int), Cond.methodLink RX2 235 yX0_isSureOfAll, Cond.instanceMethod yX0_isSureOfAll, Cond.selects RX0 yX0_isSureOfAll yX0_isSureOfAll, Cond.code yX0_isSureOfAll cX0_isSureOfAll 2 (some .boolean)]
def wsX2_fewestLaid : List Cond := .code yX2_fewestLaid cX2_fewestLaid 4 (some .int) :: ((wsX2_fewestLaid_r1 ++ wsX2_fewestLaid_r2) ++ wsX00)
def wsX2_few_r1 : List Cond := [Cond.fieldLink RX2 133 "NineDrawers" "fewDone" "I", Cond.methodLink RX2 62 yX2_isDrawer, Cond.instanceMethod yX2_isDrawer, Cond.selects RX2 yX2_isDrawer yX2_isDrawer, Cond.initialized RX2, Cond.code yX2_isDrawer cX2_isDrawer 2 (some .boolean), Cond.fieldLink RX2 49 "NineDrawers" "hasChest" "Z", Cond.methodLink RX2 123 yX2_courseWithout, Cond.instanceMethod yX2_courseWithout, Cond.selects RX2 yX2_courseWithout yX2_courseWithout, Cond.code yX2_courseWithout cX2_courseWithout 4 (some (.object "NineDrawers$Course")), Cond.fieldLink RX2 29 "NineDrawers" "course" "LNineDrawers$Course;", Cond.fieldLink RX2 19 "NineDrawers" "hall" "LNineDrawers$Hall;", Cond.fieldLink RX2 72 "NineDrawers$Hall" "laidIn" "[I", Cond.fieldLink RX2 94 "NineDrawers$Hall" "people" "I", Cond.fieldLink RX2 100 "NineDrawers$Hall" "drawerOf" "[I", Cond.fieldLink RX2 97 "NineDrawers$Hall" "kindOf" "[I", Cond.fieldLink RX2 103 "NineDrawers$Hall" "ownDayOf" "[I", Cond.methodLink RX2 66 yX2_aheadOf, Cond.instanceMethod yX2_aheadOf, Cond.selects RX2 yX2_aheadOf yX2_aheadOf, Cond.code yX2_aheadOf cX2_aheadOf 2 (some .int), Cond.fieldLink RX2 59 "NineDrawers$Hall" "facing" "I", Cond.fieldLink RX2 13 "NineDrawers" "delayOf" "[I"]
def wsX2_few_r2 : List Cond := [Cond.methodLink RX2 225 yX0_start, Cond.instanceMethod yX0_start, Cond.selects RX0 yX0_start yX0_start, Cond.initialized RX0, Cond.code yX0_start cX0_start 3 none, Cond.fieldLink RX0 9 "NineDrawers$Course" "ahead" "I", Cond.fieldLink RX0 15 "NineDrawers$Course" "laid" "I", Cond.fieldLink RX0 18 "NineDrawers$Course" "putIfEmpty" "I", Cond.fieldLink RX0 21 "NineDrawers$Course" "putIfThere" "I", Cond.methodLink RX2 229 yX0_join, Cond.instanceMethod yX0_join, Cond.selects RX0 yX0_join yX0_join, Cond.code yX0_join cX0_join 3 none, Cond.static yX2_putsIfEmpty, Cond.code yX2_putsIfEmpty cX2_putsIfEmpty 2 (some .int), Cond.static yX2_putsIfThere, Cond.code yX2_putsIfThere cX2_putsIfThere 2 (some .int), Cond.methodLink RX2 136 yX2_fewestLaid, Cond.static yX2_fewestLaid, Cond.code yX2_fewestLaid cX2_fewestLaid 4 (some .int), Cond.fieldLink RX2 171 "NineDrawers$Course" "laid" "I", Cond.methodLink RX2 140 yJ6_bitCount_0f7a4, Cond.static yJ6_bitCount_0f7a4, Cond.initialized RJ6]
def wsX2_few_r3 : List Cond := [Cond.code yJ6_bitCount_0f7a4 cJ6_bitCount_0f7a4 1 (some .int), Cond.constant RJ6 265 (1431655765), Cond.constant RJ6 266 (858993459), Cond.constant RJ6 267 (252645135), Cond.methodLink RX2 160 yX0_settle, Cond.instanceMethod yX0_settle, Cond.selects RX0 yX0_settle yX0_settle, Cond.code yX0_settle cX0_settle 1 none, Cond.fieldLink RX0 35 "NineDrawers$Course" "canHold" "I", Cond.fieldLink RX0 38 "NineDrawers$Course" "canLack" "I", Cond.fieldLink RX0 45 "NineDrawers$Course" "stuck" "I", Cond.methodLink RX0 31 yX0_mustBe, Cond.instanceMethod yX0_mustBe, Cond.selects RX0 yX0_mustBe yX0_mustBe, Cond.code yX0_mustBe cX0_mustBe 3 (some .int), Cond.methodLink RX0 41 yX0_onlyWeek, Cond.instanceMethod yX0_onlyWeek, Cond.selects RX0 yX0_onlyWeek yX0_onlyWeek, Cond.code yX0_onlyWeek cX0_onlyWeek 3 (some .int), Cond.methodLink RX2 235 yX0_isSureOfAll, Cond.instanceMethod yX0_isSureOfAll, Cond.selects RX0 yX0_isSureOfAll yX0_isSureOfAll, Cond.code yX0_isSureOfAll cX0_isSureOfAll 2 (some .boolean)]
def wsX2_few : List Cond := .code yX2_few cX2_few 5 (some .int) :: ((wsX2_few_r1 ++ (wsX2_few_r2 ++ wsX2_few_r3)) ++ wsX20 ++ wsX10 ++ wsX00)
def wsX2_found : List Cond := .code yX2_found cX2_found 4 (some .int) :: ([.fieldLink RX2 19 "NineDrawers" "hall" "LNineDrawers$Hall;", .fieldLink RX2 145 "NineDrawers$Hall" "timesFound" "I", .fieldLink RX2 148 "NineDrawers$Hall" "foundThere" "[I", .fieldLink RX2 151 "NineDrawers$Hall" "foundEmpty" "[I", .methodLink RX2 62 yX2_isDrawer, .instanceMethod yX2_isDrawer, .selects RX2 yX2_isDrawer yX2_isDrawer, .initialized RX2, .code yX2_isDrawer cX2_isDrawer 2 (some .boolean), .fieldLink RX2 49 "NineDrawers" "hasChest" "Z", .methodLink RX2 91 yX2_isDay, .static yX2_isDay, .code yX2_isDay cX2_isDay 1 (some .boolean)] ++ wsX20 ++ wsX10)
def wsX2_forget : List Cond := .code yX2_forget cX2_forget 2 (some .int) :: ([.fieldLink RX2 19 "NineDrawers" "hall" "LNineDrawers$Hall;", .fieldLink RX2 145 "NineDrawers$Hall" "timesFound" "I", .methodLink RX2 154 yX1_clearFound, .instanceMethod yX1_clearFound, .selects RX1 yX1_clearFound yX1_clearFound, .initialized RX1, .code yX1_clearFound cX1_clearFound 2 none, .fieldLink RX1 40 "NineDrawers$Hall" "timesFound" "I", .fieldLink RX1 24 "NineDrawers$Hall" "foundThere" "[I", .fieldLink RX1 27 "NineDrawers$Hall" "foundEmpty" "[I"] ++ wsX20 ++ wsX10)
def wsX2_isAsFound : List Cond := .code yX2_isAsFound cX2_isAsFound 3 (some .boolean) :: ([.fieldLink RX2 19 "NineDrawers" "hall" "LNineDrawers$Hall;", .fieldLink RX2 148 "NineDrawers$Hall" "foundThere" "[I", .fieldLink RX2 151 "NineDrawers$Hall" "foundEmpty" "[I", .methodLink RX2 232 yX0_allows, .instanceMethod yX0_allows, .selects RX0 yX0_allows yX0_allows, .initialized RX0, .code yX0_allows cX0_allows 3 (some .boolean), .fieldLink RX0 45 "NineDrawers$Course" "stuck" "I", .fieldLink RX0 35 "NineDrawers$Course" "canHold" "I", .fieldLink RX0 38 "NineDrawers$Course" "canLack" "I"] ++ wsX20 ++ wsX10 ++ wsX00)
def wsX2_delays_r1 : List Cond := [Cond.fieldLink RX2 157 "NineDrawers$Course" "ahead" "I", Cond.methodLink RX2 62 yX2_isDrawer, Cond.instanceMethod yX2_isDrawer, Cond.selects RX2 yX2_isDrawer yX2_isDrawer, Cond.initialized RX2, Cond.code yX2_isDrawer cX2_isDrawer 2 (some .boolean), Cond.fieldLink RX2 49 "NineDrawers" "hasChest" "Z", Cond.methodLink RX2 123 yX2_courseWithout, Cond.instanceMethod yX2_courseWithout, Cond.selects RX2 yX2_courseWithout yX2_courseWithout, Cond.code yX2_courseWithout cX2_courseWithout 4 (some (.object "NineDrawers$Course")), Cond.fieldLink RX2 29 "NineDrawers" "course" "LNineDrawers$Course;", Cond.fieldLink RX2 19 "NineDrawers" "hall" "LNineDrawers$Hall;", Cond.fieldLink RX2 72 "NineDrawers$Hall" "laidIn" "[I", Cond.fieldLink RX2 94 "NineDrawers$Hall" "people" "I", Cond.fieldLink RX2 100 "NineDrawers$Hall" "drawerOf" "[I", Cond.fieldLink RX2 97 "NineDrawers$Hall" "kindOf" "[I", Cond.fieldLink RX2 103 "NineDrawers$Hall" "ownDayOf" "[I", Cond.methodLink RX2 66 yX2_aheadOf, Cond.instanceMethod yX2_aheadOf, Cond.selects RX2 yX2_aheadOf yX2_aheadOf, Cond.code yX2_aheadOf cX2_aheadOf 2 (some .int), Cond.fieldLink RX2 59 "NineDrawers$Hall" "facing" "I", Cond.fieldLink RX2 13 "NineDrawers" "delayOf" "[I"]
def wsX2_delays_r2 : List Cond := [Cond.methodLink RX2 225 yX0_start, Cond.instanceMethod yX0_start, Cond.selects RX0 yX0_start yX0_start, Cond.initialized RX0, Cond.code yX0_start cX0_start 3 none, Cond.fieldLink RX0 9 "NineDrawers$Course" "ahead" "I", Cond.fieldLink RX0 15 "NineDrawers$Course" "laid" "I", Cond.fieldLink RX0 18 "NineDrawers$Course" "putIfEmpty" "I", Cond.fieldLink RX0 21 "NineDrawers$Course" "putIfThere" "I", Cond.methodLink RX2 229 yX0_join, Cond.instanceMethod yX0_join, Cond.selects RX0 yX0_join yX0_join, Cond.code yX0_join cX0_join 3 none, Cond.static yX2_putsIfEmpty, Cond.code yX2_putsIfEmpty cX2_putsIfEmpty 2 (some .int), Cond.static yX2_putsIfThere, Cond.code yX2_putsIfThere cX2_putsIfThere 2 (some .int), Cond.methodLink RX2 160 yX0_settle, Cond.instanceMethod yX0_settle, Cond.selects RX0 yX0_settle yX0_settle, Cond.code yX0_settle cX0_settle 1 none, Cond.fieldLink RX0 35 "NineDrawers$Course" "canHold" "I", Cond.fieldLink RX0 38 "NineDrawers$Course" "canLack" "I", Cond.fieldLink RX0 45 "NineDrawers$Course" "stuck" "I"]
def wsX2_delays_r3 : List Cond := [Cond.methodLink RX0 31 yX0_mustBe, Cond.instanceMethod yX0_mustBe, Cond.selects RX0 yX0_mustBe yX0_mustBe, Cond.code yX0_mustBe cX0_mustBe 3 (some .int), Cond.methodLink RX0 41 yX0_onlyWeek, Cond.instanceMethod yX0_onlyWeek, Cond.selects RX0 yX0_onlyWeek yX0_onlyWeek, Cond.code yX0_onlyWeek cX0_onlyWeek 3 (some .int), Cond.methodLink RX2 163 yX2_isAsFound, Cond.instanceMethod yX2_isAsFound, Cond.selects RX2 yX2_isAsFound yX2_isAsFound, Cond.code yX2_isAsFound cX2_isAsFound 3 (some .boolean), Cond.fieldLink RX2 148 "NineDrawers$Hall" "foundThere" "[I", Cond.fieldLink RX2 151 "NineDrawers$Hall" "foundEmpty" "[I", Cond.methodLink RX2 232 yX0_allows, Cond.instanceMethod yX0_allows, Cond.selects RX0 yX0_allows yX0_allows, Cond.code yX0_allows cX0_allows 3 (some .boolean)]
def wsX2_delays : List Cond := .code yX2_delays cX2_delays 5 (some .int) :: ((wsX2_delays_r1 ++ (wsX2_delays_r2 ++ wsX2_delays_r3)) ++ wsX00 ++ wsX20 ++ wsX10)
def wsX2_canBe_r1 : List Cond := [Cond.fieldLink RX2 19 "NineDrawers" "hall" "LNineDrawers$Hall;", Cond.fieldLink RX2 100 "NineDrawers$Hall" "drawerOf" "[I", Cond.methodLink RX2 123 yX2_courseWithout, Cond.instanceMethod yX2_courseWithout, Cond.selects RX2 yX2_courseWithout yX2_courseWithout, Cond.initialized RX2, Cond.code yX2_courseWithout cX2_courseWithout 4 (some (.object "NineDrawers$Course")), Cond.fieldLink RX2 29 "NineDrawers" "course" "LNineDrawers$Course;", Cond.fieldLink RX2 72 "NineDrawers$Hall" "laidIn" "[I", Cond.fieldLink RX2 94 "NineDrawers$Hall" "people" "I", Cond.fieldLink RX2 97 "NineDrawers$Hall" "kindOf" "[I", Cond.fieldLink RX2 103 "NineDrawers$Hall" "ownDayOf" "[I", Cond.methodLink RX2 66 yX2_aheadOf, Cond.instanceMethod yX2_aheadOf, Cond.selects RX2 yX2_aheadOf yX2_aheadOf, Cond.code yX2_aheadOf cX2_aheadOf 2 (some .int), Cond.fieldLink RX2 59 "NineDrawers$Hall" "facing" "I", Cond.fieldLink RX2 13 "NineDrawers" "delayOf" "[I", Cond.methodLink RX2 225 yX0_start, Cond.instanceMethod yX0_start, Cond.selects RX0 yX0_start yX0_start, Cond.initialized RX0, Cond.code yX0_start cX0_start 3 none, Cond.fieldLink RX0 9 "NineDrawers$Course" "ahead" "I"]
def wsX2_canBe_r2 : List Cond := [Cond.fieldLink RX0 15 "NineDrawers$Course" "laid" "I", Cond.fieldLink RX0 18 "NineDrawers$Course" "putIfEmpty" "I", Cond.fieldLink RX0 21 "NineDrawers$Course" "putIfThere" "I", Cond.methodLink RX2 229 yX0_join, Cond.instanceMethod yX0_join, Cond.selects RX0 yX0_join yX0_join, Cond.code yX0_join cX0_join 3 none, Cond.static yX2_putsIfEmpty, Cond.code yX2_putsIfEmpty cX2_putsIfEmpty 2 (some .int), Cond.static yX2_putsIfThere, Cond.code yX2_putsIfThere cX2_putsIfThere 2 (some .int), Cond.methodLink RX2 160 yX0_settle, Cond.instanceMethod yX0_settle, Cond.selects RX0 yX0_settle yX0_settle, Cond.code yX0_settle cX0_settle 1 none, Cond.fieldLink RX0 35 "NineDrawers$Course" "canHold" "I", Cond.fieldLink RX0 38 "NineDrawers$Course" "canLack" "I", Cond.fieldLink RX0 45 "NineDrawers$Course" "stuck" "I", Cond.methodLink RX0 31 yX0_mustBe, Cond.instanceMethod yX0_mustBe, Cond.selects RX0 yX0_mustBe yX0_mustBe, Cond.code yX0_mustBe cX0_mustBe 3 (some .int), Cond.methodLink RX0 41 yX0_onlyWeek, Cond.instanceMethod yX0_onlyWeek]
def wsX2_canBe_r3 : List Cond := [Cond.selects RX0 yX0_onlyWeek yX0_onlyWeek, Cond.code yX0_onlyWeek cX0_onlyWeek 3 (some .int), Cond.methodLink RX2 163 yX2_isAsFound, Cond.instanceMethod yX2_isAsFound, Cond.selects RX2 yX2_isAsFound yX2_isAsFound, Cond.code yX2_isAsFound cX2_isAsFound 3 (some .boolean), Cond.fieldLink RX2 148 "NineDrawers$Hall" "foundThere" "[I", Cond.fieldLink RX2 151 "NineDrawers$Hall" "foundEmpty" "[I", Cond.methodLink RX2 232 yX0_allows, Cond.instanceMethod yX0_allows, Cond.selects RX0 yX0_allows yX0_allows, Cond.code yX0_allows cX0_allows 3 (some .boolean)]
def wsX2_canBe : List Cond := .code yX2_canBe cX2_canBe 6 (some .boolean) :: ((wsX2_canBe_r1 ++ (wsX2_canBe_r2 ++ wsX2_canBe_r3)) ++ wsX20 ++ wsX10 ++ wsX00)
def wsX2_who_r1 : List Cond := [Cond.methodLink RX2 106 yX2_isPerson, Cond.instanceMethod yX2_isPerson, Cond.selects RX2 yX2_isPerson yX2_isPerson, Cond.initialized RX2, Cond.code yX2_isPerson cX2_isPerson 2 (some .boolean), Cond.fieldLink RX2 19 "NineDrawers" "hall" "LNineDrawers$Hall;", Cond.fieldLink RX2 94 "NineDrawers$Hall" "people" "I", Cond.methodLink RX2 167 yX2_canBe, Cond.instanceMethod yX2_canBe, Cond.selects RX2 yX2_canBe yX2_canBe, Cond.code yX2_canBe cX2_canBe 6 (some .boolean), Cond.fieldLink RX2 100 "NineDrawers$Hall" "drawerOf" "[I", Cond.methodLink RX2 123 yX2_courseWithout, Cond.instanceMethod yX2_courseWithout, Cond.selects RX2 yX2_courseWithout yX2_courseWithout, Cond.code yX2_courseWithout cX2_courseWithout 4 (some (.object "NineDrawers$Course")), Cond.fieldLink RX2 29 "NineDrawers" "course" "LNineDrawers$Course;", Cond.fieldLink RX2 72 "NineDrawers$Hall" "laidIn" "[I", Cond.fieldLink RX2 97 "NineDrawers$Hall" "kindOf" "[I", Cond.fieldLink RX2 103 "NineDrawers$Hall" "ownDayOf" "[I", Cond.methodLink RX2 66 yX2_aheadOf, Cond.instanceMethod yX2_aheadOf, Cond.selects RX2 yX2_aheadOf yX2_aheadOf, Cond.code yX2_aheadOf cX2_aheadOf 2 (some .int)]
def wsX2_who_r2 : List Cond := [Cond.fieldLink RX2 59 "NineDrawers$Hall" "facing" "I", Cond.fieldLink RX2 13 "NineDrawers" "delayOf" "[I", Cond.methodLink RX2 225 yX0_start, Cond.instanceMethod yX0_start, Cond.selects RX0 yX0_start yX0_start, Cond.initialized RX0, Cond.code yX0_start cX0_start 3 none, Cond.fieldLink RX0 9 "NineDrawers$Course" "ahead" "I", Cond.fieldLink RX0 15 "NineDrawers$Course" "laid" "I", Cond.fieldLink RX0 18 "NineDrawers$Course" "putIfEmpty" "I", Cond.fieldLink RX0 21 "NineDrawers$Course" "putIfThere" "I", Cond.methodLink RX2 229 yX0_join, Cond.instanceMethod yX0_join, Cond.selects RX0 yX0_join yX0_join, Cond.code yX0_join cX0_join 3 none, Cond.static yX2_putsIfEmpty, Cond.code yX2_putsIfEmpty cX2_putsIfEmpty 2 (some .int), Cond.static yX2_putsIfThere, Cond.code yX2_putsIfThere cX2_putsIfThere 2 (some .int), Cond.methodLink RX2 160 yX0_settle, Cond.instanceMethod yX0_settle, Cond.selects RX0 yX0_settle yX0_settle, Cond.code yX0_settle cX0_settle 1 none, Cond.fieldLink RX0 35 "NineDrawers$Course" "canHold" "I"]
def wsX2_who_r3 : List Cond := [Cond.fieldLink RX0 38 "NineDrawers$Course" "canLack" "I", Cond.fieldLink RX0 45 "NineDrawers$Course" "stuck" "I", Cond.methodLink RX0 31 yX0_mustBe, Cond.instanceMethod yX0_mustBe, Cond.selects RX0 yX0_mustBe yX0_mustBe, Cond.code yX0_mustBe cX0_mustBe 3 (some .int), Cond.methodLink RX0 41 yX0_onlyWeek, Cond.instanceMethod yX0_onlyWeek, Cond.selects RX0 yX0_onlyWeek yX0_onlyWeek, Cond.code yX0_onlyWeek cX0_onlyWeek 3 (some .int), Cond.methodLink RX2 163 yX2_isAsFound, Cond.instanceMethod yX2_isAsFound, Cond.selects RX2 yX2_isAsFound yX2_isAsFound, Cond.code yX2_isAsFound cX2_isAsFound 3 (some .boolean), Cond.fieldLink RX2 148 "NineDrawers$Hall" "foundThere" "[I", Cond.fieldLink RX2 151 "NineDrawers$Hall" "foundEmpty" "[I", Cond.methodLink RX2 232 yX0_allows, Cond.instanceMethod yX0_allows, Cond.selects RX0 yX0_allows yX0_allows, Cond.code yX0_allows cX0_allows 3 (some .boolean)]
def wsX2_who : List Cond := .code yX2_who cX2_who 7 (some .int) :: ((wsX2_who_r1 ++ (wsX2_who_r2 ++ wsX2_who_r3)) ++ wsX20 ++ wsX10 ++ wsX00)
def wsX2_nextSeed : List Cond := .code yX2_nextSeed cX2_nextSeed 1 (some .int) :: ([.constant RX2 238 (1103515245), .constant RX2 239 (2147483647)])
def wsX2_drawOf : List Cond := .code yX2_drawOf cX2_drawOf 2 (some .int) :: ([.constant RX2 240 (65536)])
def wsX2_weeks_r1 : List Cond := [Cond.fieldLink RX2 49 "NineDrawers" "hasChest" "Z", Cond.fieldLink RX2 171 "NineDrawers$Course" "laid" "I", Cond.fieldLink RX2 180 "NineDrawers$Course" "stuck" "I", Cond.methodLink RX2 123 yX2_courseWithout, Cond.instanceMethod yX2_courseWithout, Cond.selects RX2 yX2_courseWithout yX2_courseWithout, Cond.initialized RX2, Cond.code yX2_courseWithout cX2_courseWithout 4 (some (.object "NineDrawers$Course")), Cond.fieldLink RX2 29 "NineDrawers" "course" "LNineDrawers$Course;", Cond.fieldLink RX2 19 "NineDrawers" "hall" "LNineDrawers$Hall;", Cond.fieldLink RX2 72 "NineDrawers$Hall" "laidIn" "[I", Cond.fieldLink RX2 94 "NineDrawers$Hall" "people" "I", Cond.fieldLink RX2 100 "NineDrawers$Hall" "drawerOf" "[I", Cond.fieldLink RX2 97 "NineDrawers$Hall" "kindOf" "[I", Cond.fieldLink RX2 103 "NineDrawers$Hall" "ownDayOf" "[I", Cond.methodLink RX2 66 yX2_aheadOf, Cond.instanceMethod yX2_aheadOf, Cond.selects RX2 yX2_aheadOf yX2_aheadOf, Cond.code yX2_aheadOf cX2_aheadOf 2 (some .int), Cond.fieldLink RX2 59 "NineDrawers$Hall" "facing" "I", Cond.fieldLink RX2 13 "NineDrawers" "delayOf" "[I", Cond.methodLink RX2 225 yX0_start, Cond.instanceMethod yX0_start, Cond.selects RX0 yX0_start yX0_start]
def wsX2_weeks_r2 : List Cond := [Cond.initialized RX0, Cond.code yX0_start cX0_start 3 none, Cond.fieldLink RX0 9 "NineDrawers$Course" "ahead" "I", Cond.fieldLink RX0 15 "NineDrawers$Course" "laid" "I", Cond.fieldLink RX0 18 "NineDrawers$Course" "putIfEmpty" "I", Cond.fieldLink RX0 21 "NineDrawers$Course" "putIfThere" "I", Cond.methodLink RX2 229 yX0_join, Cond.instanceMethod yX0_join, Cond.selects RX0 yX0_join yX0_join, Cond.code yX0_join cX0_join 3 none, Cond.static yX2_putsIfEmpty, Cond.code yX2_putsIfEmpty cX2_putsIfEmpty 2 (some .int), Cond.static yX2_putsIfThere, Cond.code yX2_putsIfThere cX2_putsIfThere 2 (some .int), Cond.methodLink RX2 174 yX2_nextSeed, Cond.static yX2_nextSeed, Cond.code yX2_nextSeed cX2_nextSeed 1 (some .int), Cond.constant RX2 238 (1103515245), Cond.constant RX2 239 (2147483647), Cond.methodLink RX2 177 yX2_drawOf, Cond.static yX2_drawOf, Cond.code yX2_drawOf cX2_drawOf 2 (some .int), Cond.constant RX2 240 (65536), Cond.methodLink RX2 160 yX0_settle]
def wsX2_weeks_r3 : List Cond := [Cond.instanceMethod yX0_settle, Cond.selects RX0 yX0_settle yX0_settle, Cond.code yX0_settle cX0_settle 1 none, Cond.fieldLink RX0 35 "NineDrawers$Course" "canHold" "I", Cond.fieldLink RX0 38 "NineDrawers$Course" "canLack" "I", Cond.fieldLink RX0 45 "NineDrawers$Course" "stuck" "I", Cond.methodLink RX0 31 yX0_mustBe, Cond.instanceMethod yX0_mustBe, Cond.selects RX0 yX0_mustBe yX0_mustBe, Cond.code yX0_mustBe cX0_mustBe 3 (some .int), Cond.methodLink RX0 41 yX0_onlyWeek, Cond.instanceMethod yX0_onlyWeek, Cond.selects RX0 yX0_onlyWeek yX0_onlyWeek, Cond.code yX0_onlyWeek cX0_onlyWeek 3 (some .int)]
def wsX2_weeks : List Cond := .code yX2_weeks cX2_weeks 10 (some .int) :: ((wsX2_weeks_r1 ++ (wsX2_weeks_r2 ++ wsX2_weeks_r3)) ++ wsX20 ++ wsX00 ++ wsX10)
def wsX2_image : List Cond := .code yX2_image cX2_image 1 (some .int) :: ([.fieldLink RX2 49 "NineDrawers" "hasChest" "Z", .fieldLink RX2 23 "NineDrawers" "kept" "LNineDrawers$Hall;", .fieldLink RX2 19 "NineDrawers" "hall" "LNineDrawers$Hall;", .fieldLink RX2 53 "NineDrawers" "hasImage" "Z", .fieldLink RX2 94 "NineDrawers$Hall" "people" "I", .methodLink RX2 183 yX1_takeFrom, .instanceMethod yX1_takeFrom, .selects RX1 yX1_takeFrom yX1_takeFrom, .initialized RX1, .code yX1_takeFrom cX1_takeFrom 3 none, .fieldLink RX1 30 "NineDrawers$Hall" "facing" "I", .fieldLink RX1 34 "NineDrawers$Hall" "people" "I", .fieldLink RX1 40 "NineDrawers$Hall" "timesFound" "I", .fieldLink RX1 9 "NineDrawers$Hall" "kindOf" "[I", .fieldLink RX1 15 "NineDrawers$Hall" "drawerOf" "[I", .fieldLink RX1 18 "NineDrawers$Hall" "ownDayOf" "[I", .fieldLink RX1 21 "NineDrawers$Hall" "laidIn" "[I", .fieldLink RX1 24 "NineDrawers$Hall" "foundThere" "[I", .fieldLink RX1 27 "NineDrawers$Hall" "foundEmpty" "[I"] ++ wsX20 ++ wsX10)
def wsX2_restore : List Cond := .code yX2_restore cX2_restore 1 (some .int) :: ([.fieldLink RX2 53 "NineDrawers" "hasImage" "Z", .fieldLink RX2 19 "NineDrawers" "hall" "LNineDrawers$Hall;", .fieldLink RX2 23 "NineDrawers" "kept" "LNineDrawers$Hall;", .fieldLink RX2 94 "NineDrawers$Hall" "people" "I", .methodLink RX2 183 yX1_takeFrom, .instanceMethod yX1_takeFrom, .selects RX1 yX1_takeFrom yX1_takeFrom, .initialized RX1, .code yX1_takeFrom cX1_takeFrom 3 none, .fieldLink RX1 30 "NineDrawers$Hall" "facing" "I", .fieldLink RX1 34 "NineDrawers$Hall" "people" "I", .fieldLink RX1 40 "NineDrawers$Hall" "timesFound" "I", .fieldLink RX1 9 "NineDrawers$Hall" "kindOf" "[I", .fieldLink RX1 15 "NineDrawers$Hall" "drawerOf" "[I", .fieldLink RX1 18 "NineDrawers$Hall" "ownDayOf" "[I", .fieldLink RX1 21 "NineDrawers$Hall" "laidIn" "[I", .fieldLink RX1 24 "NineDrawers$Hall" "foundThere" "[I", .fieldLink RX1 27 "NineDrawers$Hall" "foundEmpty" "[I"] ++ wsX20 ++ wsX10)
def wsX2_drawersThatAgree_r1 : List Cond := [Cond.fieldLink RX2 49 "NineDrawers" "hasChest" "Z", Cond.fieldLink RX2 180 "NineDrawers$Course" "stuck" "I", Cond.methodLink RX2 75 yX2_courseOf, Cond.instanceMethod yX2_courseOf, Cond.selects RX2 yX2_courseOf yX2_courseOf, Cond.initialized RX2, Cond.code yX2_courseOf cX2_courseOf 3 (some (.object "NineDrawers$Course")), Cond.methodLink RX2 123 yX2_courseWithout, Cond.instanceMethod yX2_courseWithout, Cond.selects RX2 yX2_courseWithout yX2_courseWithout, Cond.code yX2_courseWithout cX2_courseWithout 4 (some (.object "NineDrawers$Course")), Cond.fieldLink RX2 29 "NineDrawers" "course" "LNineDrawers$Course;", Cond.fieldLink RX2 19 "NineDrawers" "hall" "LNineDrawers$Hall;", Cond.fieldLink RX2 72 "NineDrawers$Hall" "laidIn" "[I", Cond.fieldLink RX2 94 "NineDrawers$Hall" "people" "I", Cond.fieldLink RX2 100 "NineDrawers$Hall" "drawerOf" "[I", Cond.fieldLink RX2 97 "NineDrawers$Hall" "kindOf" "[I", Cond.fieldLink RX2 103 "NineDrawers$Hall" "ownDayOf" "[I", Cond.methodLink RX2 66 yX2_aheadOf, Cond.instanceMethod yX2_aheadOf, Cond.selects RX2 yX2_aheadOf yX2_aheadOf, Cond.code yX2_aheadOf cX2_aheadOf 2 (some .int), Cond.fieldLink RX2 59 "NineDrawers$Hall" "facing" "I", Cond.fieldLink RX2 13 "NineDrawers" "delayOf" "[I"]
def wsX2_drawersThatAgree_r2 : List Cond := [Cond.methodLink RX2 225 yX0_start, Cond.instanceMethod yX0_start, Cond.selects RX0 yX0_start yX0_start, Cond.initialized RX0, Cond.code yX0_start cX0_start 3 none, Cond.fieldLink RX0 9 "NineDrawers$Course" "ahead" "I", Cond.fieldLink RX0 15 "NineDrawers$Course" "laid" "I", Cond.fieldLink RX0 18 "NineDrawers$Course" "putIfEmpty" "I", Cond.fieldLink RX0 21 "NineDrawers$Course" "putIfThere" "I", Cond.methodLink RX2 229 yX0_join, Cond.instanceMethod yX0_join, Cond.selects RX0 yX0_join yX0_join, Cond.code yX0_join cX0_join 3 none, Cond.static yX2_putsIfEmpty, Cond.code yX2_putsIfEmpty cX2_putsIfEmpty 2 (some .int), Cond.static yX2_putsIfThere, Cond.code yX2_putsIfThere cX2_putsIfThere 2 (some .int), Cond.methodLink RX2 160 yX0_settle, Cond.instanceMethod yX0_settle, Cond.selects RX0 yX0_settle yX0_settle, Cond.code yX0_settle cX0_settle 1 none, Cond.fieldLink RX0 35 "NineDrawers$Course" "canHold" "I", Cond.fieldLink RX0 38 "NineDrawers$Course" "canLack" "I", Cond.fieldLink RX0 45 "NineDrawers$Course" "stuck" "I"]
def wsX2_drawersThatAgree_r3 : List Cond := [Cond.methodLink RX0 31 yX0_mustBe, Cond.instanceMethod yX0_mustBe, Cond.selects RX0 yX0_mustBe yX0_mustBe, Cond.code yX0_mustBe cX0_mustBe 3 (some .int), Cond.methodLink RX0 41 yX0_onlyWeek, Cond.instanceMethod yX0_onlyWeek, Cond.selects RX0 yX0_onlyWeek yX0_onlyWeek, Cond.code yX0_onlyWeek cX0_onlyWeek 3 (some .int)]
def wsX2_drawersThatAgree : List Cond := .code yX2_drawersThatAgree cX2_drawersThatAgree 3 (some .int) :: ((wsX2_drawersThatAgree_r1 ++ (wsX2_drawersThatAgree_r2 ++ wsX2_drawersThatAgree_r3)) ++ wsX20 ++ wsX00 ++ wsX10)
def wsX2_count_r1 : List Cond := [Cond.fieldLink RX2 19 "NineDrawers" "hall" "LNineDrawers$Hall;", Cond.fieldLink RX2 59 "NineDrawers$Hall" "facing" "I", Cond.fieldLink RX2 94 "NineDrawers$Hall" "people" "I", Cond.fieldLink RX2 145 "NineDrawers$Hall" "timesFound" "I", Cond.fieldLink RX2 33 "NineDrawers" "pageLength" "I", Cond.fieldLink RX2 56 "NineDrawers" "chestsRead" "I", Cond.fieldLink RX2 133 "NineDrawers" "fewDone" "I", Cond.methodLink RX2 187 yX2_drawersThatAgree, Cond.instanceMethod yX2_drawersThatAgree, Cond.selects RX2 yX2_drawersThatAgree yX2_drawersThatAgree, Cond.initialized RX2, Cond.code yX2_drawersThatAgree cX2_drawersThatAgree 3 (some .int), Cond.fieldLink RX2 49 "NineDrawers" "hasChest" "Z", Cond.fieldLink RX2 180 "NineDrawers$Course" "stuck" "I", Cond.methodLink RX2 75 yX2_courseOf, Cond.instanceMethod yX2_courseOf, Cond.selects RX2 yX2_courseOf yX2_courseOf, Cond.code yX2_courseOf cX2_courseOf 3 (some (.object "NineDrawers$Course")), Cond.methodLink RX2 123 yX2_courseWithout, Cond.instanceMethod yX2_courseWithout, Cond.selects RX2 yX2_courseWithout yX2_courseWithout, Cond.code yX2_courseWithout cX2_courseWithout 4 (some (.object "NineDrawers$Course")), Cond.fieldLink RX2 29 "NineDrawers" "course" "LNineDrawers$Course;", Cond.fieldLink RX2 72 "NineDrawers$Hall" "laidIn" "[I"]
def wsX2_count_r2 : List Cond := [Cond.fieldLink RX2 100 "NineDrawers$Hall" "drawerOf" "[I", Cond.fieldLink RX2 97 "NineDrawers$Hall" "kindOf" "[I", Cond.fieldLink RX2 103 "NineDrawers$Hall" "ownDayOf" "[I", Cond.methodLink RX2 66 yX2_aheadOf, Cond.instanceMethod yX2_aheadOf, Cond.selects RX2 yX2_aheadOf yX2_aheadOf, Cond.code yX2_aheadOf cX2_aheadOf 2 (some .int), Cond.fieldLink RX2 13 "NineDrawers" "delayOf" "[I", Cond.methodLink RX2 225 yX0_start, Cond.instanceMethod yX0_start, Cond.selects RX0 yX0_start yX0_start, Cond.initialized RX0, Cond.code yX0_start cX0_start 3 none, Cond.fieldLink RX0 9 "NineDrawers$Course" "ahead" "I", Cond.fieldLink RX0 15 "NineDrawers$Course" "laid" "I", Cond.fieldLink RX0 18 "NineDrawers$Course" "putIfEmpty" "I", Cond.fieldLink RX0 21 "NineDrawers$Course" "putIfThere" "I", Cond.methodLink RX2 229 yX0_join, Cond.instanceMethod yX0_join, Cond.selects RX0 yX0_join yX0_join, Cond.code yX0_join cX0_join 3 none, Cond.static yX2_putsIfEmpty, Cond.code yX2_putsIfEmpty cX2_putsIfEmpty 2 (some .int), Cond.static yX2_putsIfThere]
def wsX2_count_r3 : List Cond := [Cond.code yX2_putsIfThere cX2_putsIfThere 2 (some .int), Cond.methodLink RX2 160 yX0_settle, Cond.instanceMethod yX0_settle, Cond.selects RX0 yX0_settle yX0_settle, Cond.code yX0_settle cX0_settle 1 none, Cond.fieldLink RX0 35 "NineDrawers$Course" "canHold" "I", Cond.fieldLink RX0 38 "NineDrawers$Course" "canLack" "I", Cond.fieldLink RX0 45 "NineDrawers$Course" "stuck" "I", Cond.methodLink RX0 31 yX0_mustBe, Cond.instanceMethod yX0_mustBe, Cond.selects RX0 yX0_mustBe yX0_mustBe, Cond.code yX0_mustBe cX0_mustBe 3 (some .int), Cond.methodLink RX0 41 yX0_onlyWeek, Cond.instanceMethod yX0_onlyWeek, Cond.selects RX0 yX0_onlyWeek yX0_onlyWeek, Cond.code yX0_onlyWeek cX0_onlyWeek 3 (some .int), Cond.methodLink RX2 190 yX1_thingsLaid, Cond.instanceMethod yX1_thingsLaid, Cond.selects RX1 yX1_thingsLaid yX1_thingsLaid, Cond.initialized RX1, Cond.code yX1_thingsLaid cX1_thingsLaid 3 (some .int), Cond.fieldLink RX1 21 "NineDrawers$Hall" "laidIn" "[I", Cond.methodLink RX1 43 yJ6_bitCount_0f7a4, Cond.static yJ6_bitCount_0f7a4]
def wsX2_count_r4 : List Cond := [Cond.initialized RJ6, Cond.code yJ6_bitCount_0f7a4 cJ6_bitCount_0f7a4 1 (some .int), Cond.constant RJ6 265 (1431655765), Cond.constant RJ6 266 (858993459), Cond.constant RJ6 267 (252645135)]
def wsX2_count : List Cond := .code yX2_count cX2_count 2 (some .int) :: ((wsX2_count_r1 ++ (wsX2_count_r2 ++ (wsX2_count_r3 ++ wsX2_count_r4))) ++ wsX20 ++ wsX10 ++ wsX00)
def wsX2_digestOfDrawer_r1 : List Cond := [Cond.constantLong RX2 202 (31), Cond.methodLink RX2 207 yX2_drawer, Cond.instanceMethod yX2_drawer, Cond.selects RX2 yX2_drawer yX2_drawer, Cond.initialized RX2, Cond.code yX2_drawer cX2_drawer 3 (some .int), Cond.fieldLink RX2 13 "NineDrawers" "delayOf" "[I", Cond.fieldLink RX2 19 "NineDrawers" "hall" "LNineDrawers$Hall;", Cond.fieldLink RX2 72 "NineDrawers$Hall" "laidIn" "[I", Cond.methodLink RX2 62 yX2_isDrawer, Cond.instanceMethod yX2_isDrawer, Cond.selects RX2 yX2_isDrawer yX2_isDrawer, Cond.code yX2_isDrawer cX2_isDrawer 2 (some .boolean), Cond.fieldLink RX2 49 "NineDrawers" "hasChest" "Z", Cond.methodLink RX2 66 yX2_aheadOf, Cond.instanceMethod yX2_aheadOf, Cond.selects RX2 yX2_aheadOf yX2_aheadOf, Cond.code yX2_aheadOf cX2_aheadOf 2 (some .int), Cond.fieldLink RX2 59 "NineDrawers$Hall" "facing" "I", Cond.methodLink RX2 69 yX1_peopleOf, Cond.instanceMethod yX1_peopleOf, Cond.selects RX1 yX1_peopleOf yX1_peopleOf, Cond.initialized RX1, Cond.code yX1_peopleOf cX1_peopleOf 4 (some .int)]
def wsX2_digestOfDrawer_r2 : List Cond := [Cond.fieldLink RX1 34 "NineDrawers$Hall" "people" "I", Cond.fieldLink RX1 15 "NineDrawers$Hall" "drawerOf" "[I", Cond.methodLink RX2 75 yX2_courseOf, Cond.instanceMethod yX2_courseOf, Cond.selects RX2 yX2_courseOf yX2_courseOf, Cond.code yX2_courseOf cX2_courseOf 3 (some (.object "NineDrawers$Course")), Cond.methodLink RX2 123 yX2_courseWithout, Cond.instanceMethod yX2_courseWithout, Cond.selects RX2 yX2_courseWithout yX2_courseWithout, Cond.code yX2_courseWithout cX2_courseWithout 4 (some (.object "NineDrawers$Course")), Cond.fieldLink RX2 29 "NineDrawers" "course" "LNineDrawers$Course;", Cond.fieldLink RX2 94 "NineDrawers$Hall" "people" "I", Cond.fieldLink RX2 100 "NineDrawers$Hall" "drawerOf" "[I", Cond.fieldLink RX2 97 "NineDrawers$Hall" "kindOf" "[I", Cond.fieldLink RX2 103 "NineDrawers$Hall" "ownDayOf" "[I", Cond.methodLink RX2 225 yX0_start, Cond.instanceMethod yX0_start, Cond.selects RX0 yX0_start yX0_start, Cond.initialized RX0, Cond.code yX0_start cX0_start 3 none, Cond.fieldLink RX0 9 "NineDrawers$Course" "ahead" "I", Cond.fieldLink RX0 15 "NineDrawers$Course" "laid" "I", Cond.fieldLink RX0 18 "NineDrawers$Course" "putIfEmpty" "I", Cond.fieldLink RX0 21 "NineDrawers$Course" "putIfThere" "I"]
def wsX2_digestOfDrawer_r3 : List Cond := [Cond.methodLink RX2 229 yX0_join, Cond.instanceMethod yX0_join, Cond.selects RX0 yX0_join yX0_join, Cond.code yX0_join cX0_join 3 none, Cond.static yX2_putsIfEmpty, Cond.code yX2_putsIfEmpty cX2_putsIfEmpty 2 (some .int), Cond.static yX2_putsIfThere, Cond.code yX2_putsIfThere cX2_putsIfThere 2 (some .int), Cond.methodLink RX2 160 yX0_settle, Cond.instanceMethod yX0_settle, Cond.selects RX0 yX0_settle yX0_settle, Cond.code yX0_settle cX0_settle 1 none, Cond.fieldLink RX0 35 "NineDrawers$Course" "canHold" "I", Cond.fieldLink RX0 38 "NineDrawers$Course" "canLack" "I", Cond.fieldLink RX0 45 "NineDrawers$Course" "stuck" "I", Cond.methodLink RX0 31 yX0_mustBe, Cond.instanceMethod yX0_mustBe, Cond.selects RX0 yX0_mustBe yX0_mustBe, Cond.code yX0_mustBe cX0_mustBe 3 (some .int), Cond.methodLink RX0 41 yX0_onlyWeek, Cond.instanceMethod yX0_onlyWeek, Cond.selects RX0 yX0_onlyWeek yX0_onlyWeek, Cond.code yX0_onlyWeek cX0_onlyWeek 3 (some .int), Cond.methodLink RX2 79 yX0_agreeing]
def wsX2_digestOfDrawer_r4 : List Cond := [Cond.instanceMethod yX0_agreeing, Cond.selects RX0 yX0_agreeing yX0_agreeing, Cond.code yX0_agreeing cX0_agreeing 1 (some .int), Cond.methodLink RX0 48 yJ6_bitCount_0f7a4, Cond.static yJ6_bitCount_0f7a4, Cond.initialized RJ6, Cond.code yJ6_bitCount_0f7a4 cJ6_bitCount_0f7a4 1 (some .int), Cond.constant RJ6 265 (1431655765), Cond.constant RJ6 266 (858993459), Cond.constant RJ6 267 (252645135), Cond.methodLink RX2 82 yX0_firstStuckDay, Cond.instanceMethod yX0_firstStuckDay, Cond.selects RX0 yX0_firstStuckDay yX0_firstStuckDay, Cond.code yX0_firstStuckDay cX0_firstStuckDay 2 (some .int), Cond.static yX2_bitOf, Cond.code yX2_bitOf cX2_bitOf 2 (some .int), Cond.methodLink RX2 85 yX0_leastWeek, Cond.instanceMethod yX0_leastWeek, Cond.selects RX0 yX0_leastWeek yX0_leastWeek, Cond.code yX0_leastWeek cX0_leastWeek 1 (some .int), Cond.methodLink RX2 210 yX2_sure, Cond.instanceMethod yX2_sure, Cond.selects RX2 yX2_sure yX2_sure, Cond.code yX2_sure cX2_sure 3 (some .int)]
def wsX2_digestOfDrawer_r5 : List Cond := [Cond.methodLink RX2 91 yX2_isDay, Cond.static yX2_isDay, Cond.code yX2_isDay cX2_isDay 1 (some .boolean), Cond.methodLink RX2 130 yX0_sureOn, Cond.instanceMethod yX0_sureOn, Cond.selects RX0 yX0_sureOn yX0_sureOn, Cond.code yX0_sureOn cX0_sureOn 2 (some .int), Cond.methodLink RX2 213 yX2_delays, Cond.instanceMethod yX2_delays, Cond.selects RX2 yX2_delays yX2_delays, Cond.code yX2_delays cX2_delays 5 (some .int), Cond.fieldLink RX2 157 "NineDrawers$Course" "ahead" "I", Cond.methodLink RX2 163 yX2_isAsFound, Cond.instanceMethod yX2_isAsFound, Cond.selects RX2 yX2_isAsFound yX2_isAsFound, Cond.code yX2_isAsFound cX2_isAsFound 3 (some .boolean), Cond.fieldLink RX2 148 "NineDrawers$Hall" "foundThere" "[I", Cond.fieldLink RX2 151 "NineDrawers$Hall" "foundEmpty" "[I", Cond.methodLink RX2 232 yX0_allows, Cond.instanceMethod yX0_allows, Cond.selects RX0 yX0_allows yX0_allows, Cond.code yX0_allows cX0_allows 3 (some .boolean)]
def wsX2_digestOfDrawer : List Cond := .code yX2_digestOfDrawer cX2_digestOfDrawer 7 (some .long) :: ((wsX2_digestOfDrawer_r1 ++ (wsX2_digestOfDrawer_r2 ++ (wsX2_digestOfDrawer_r3 ++ (wsX2_digestOfDrawer_r4 ++ wsX2_digestOfDrawer_r5)))) ++ wsX20 ++ wsX10 ++ wsX00)
def wsX2_digestOfPerson_r1 : List Cond := [Cond.constantLong RX2 202 (31), Cond.methodLink RX2 216 yX2_about, Cond.instanceMethod yX2_about, Cond.selects RX2 yX2_about yX2_about, Cond.initialized RX2, Cond.code yX2_about cX2_about 5 (some .int), Cond.fieldLink RX2 19 "NineDrawers" "hall" "LNineDrawers$Hall;", Cond.fieldLink RX2 97 "NineDrawers$Hall" "kindOf" "[I", Cond.fieldLink RX2 103 "NineDrawers$Hall" "ownDayOf" "[I", Cond.fieldLink RX2 100 "NineDrawers$Hall" "drawerOf" "[I", Cond.methodLink RX2 106 yX2_isPerson, Cond.instanceMethod yX2_isPerson, Cond.selects RX2 yX2_isPerson yX2_isPerson, Cond.code yX2_isPerson cX2_isPerson 2 (some .boolean), Cond.fieldLink RX2 94 "NineDrawers$Hall" "people" "I", Cond.methodLink RX2 109 yX2_putsIfEmpty, Cond.static yX2_putsIfEmpty, Cond.code yX2_putsIfEmpty cX2_putsIfEmpty 2 (some .int), Cond.methodLink RX2 113 yX2_bitOf, Cond.static yX2_bitOf, Cond.code yX2_bitOf cX2_bitOf 2 (some .int), Cond.methodLink RX2 116 yX2_putsIfThere, Cond.static yX2_putsIfThere, Cond.code yX2_putsIfThere cX2_putsIfThere 2 (some .int)]
def wsX2_digestOfPerson_r2 : List Cond := [Cond.methodLink RX2 219 yX2_who, Cond.instanceMethod yX2_who, Cond.selects RX2 yX2_who yX2_who, Cond.code yX2_who cX2_who 7 (some .int), Cond.methodLink RX2 167 yX2_canBe, Cond.instanceMethod yX2_canBe, Cond.selects RX2 yX2_canBe yX2_canBe, Cond.code yX2_canBe cX2_canBe 6 (some .boolean), Cond.methodLink RX2 123 yX2_courseWithout, Cond.instanceMethod yX2_courseWithout, Cond.selects RX2 yX2_courseWithout yX2_courseWithout, Cond.code yX2_courseWithout cX2_courseWithout 4 (some (.object "NineDrawers$Course")), Cond.fieldLink RX2 29 "NineDrawers" "course" "LNineDrawers$Course;", Cond.fieldLink RX2 72 "NineDrawers$Hall" "laidIn" "[I", Cond.methodLink RX2 66 yX2_aheadOf, Cond.instanceMethod yX2_aheadOf, Cond.selects RX2 yX2_aheadOf yX2_aheadOf, Cond.code yX2_aheadOf cX2_aheadOf 2 (some .int), Cond.fieldLink RX2 59 "NineDrawers$Hall" "facing" "I", Cond.fieldLink RX2 13 "NineDrawers" "delayOf" "[I", Cond.methodLink RX2 225 yX0_start, Cond.instanceMethod yX0_start, Cond.selects RX0 yX0_start yX0_start, Cond.initialized RX0]
def wsX2_digestOfPerson_r3 : List Cond := [Cond.code yX0_start cX0_start 3 none, Cond.fieldLink RX0 9 "NineDrawers$Course" "ahead" "I", Cond.fieldLink RX0 15 "NineDrawers$Course" "laid" "I", Cond.fieldLink RX0 18 "NineDrawers$Course" "putIfEmpty" "I", Cond.fieldLink RX0 21 "NineDrawers$Course" "putIfThere" "I", Cond.methodLink RX2 229 yX0_join, Cond.instanceMethod yX0_join, Cond.selects RX0 yX0_join yX0_join, Cond.code yX0_join cX0_join 3 none, Cond.methodLink RX2 160 yX0_settle, Cond.instanceMethod yX0_settle, Cond.selects RX0 yX0_settle yX0_settle, Cond.code yX0_settle cX0_settle 1 none, Cond.fieldLink RX0 35 "NineDrawers$Course" "canHold" "I", Cond.fieldLink RX0 38 "NineDrawers$Course" "canLack" "I", Cond.fieldLink RX0 45 "NineDrawers$Course" "stuck" "I", Cond.methodLink RX0 31 yX0_mustBe, Cond.instanceMethod yX0_mustBe, Cond.selects RX0 yX0_mustBe yX0_mustBe, Cond.code yX0_mustBe cX0_mustBe 3 (some .int), Cond.methodLink RX0 41 yX0_onlyWeek, Cond.instanceMethod yX0_onlyWeek, Cond.selects RX0 yX0_onlyWeek yX0_onlyWeek, Cond.code yX0_onlyWeek cX0_onlyWeek 3 (some .int)]
def wsX2_digestOfPerson_r4 : List Cond := [Cond.methodLink RX2 163 yX2_isAsFound, Cond.instanceMethod yX2_isAsFound, Cond.selects RX2 yX2_isAsFound yX2_isAsFound, Cond.code yX2_isAsFound cX2_isAsFound 3 (some .boolean), Cond.fieldLink RX2 148 "NineDrawers$Hall" "foundThere" "[I", Cond.fieldLink RX2 151 "NineDrawers$Hall" "foundEmpty" "[I", Cond.methodLink RX2 232 yX0_allows, Cond.instanceMethod yX0_allows, Cond.selects RX0 yX0_allows yX0_allows, Cond.code yX0_allows cX0_allows 3 (some .boolean)]
def wsX2_digestOfPerson : List Cond := .code yX2_digestOfPerson cX2_digestOfPerson 7 (some .long) :: ((wsX2_digestOfPerson_r1 ++ (wsX2_digestOfPerson_r2 ++ (wsX2_digestOfPerson_r3 ++ wsX2_digestOfPerson_r4))) ++ wsX20 ++ wsX10 ++ wsX00)
def wsX2_digest_r1 : List Cond := [Cond.constantLong RX2 193 (853), Cond.fieldLink RX2 49 "NineDrawers" "hasChest" "Z", Cond.fieldLink RX2 19 "NineDrawers" "hall" "LNineDrawers$Hall;", Cond.fieldLink RX2 94 "NineDrawers$Hall" "people" "I", Cond.fieldLink RX2 33 "NineDrawers" "pageLength" "I", Cond.fieldLink RX2 9 "NineDrawers" "page" "[I", Cond.constantLong RX2 202 (31), Cond.methodLink RX2 195 yX2_digestOfDrawer, Cond.instanceMethod yX2_digestOfDrawer, Cond.selects RX2 yX2_digestOfDrawer yX2_digestOfDrawer, Cond.initialized RX2, Cond.code yX2_digestOfDrawer cX2_digestOfDrawer 7 (some .long), Cond.methodLink RX2 207 yX2_drawer, Cond.instanceMethod yX2_drawer, Cond.selects RX2 yX2_drawer yX2_drawer, Cond.code yX2_drawer cX2_drawer 3 (some .int), Cond.fieldLink RX2 13 "NineDrawers" "delayOf" "[I", Cond.fieldLink RX2 72 "NineDrawers$Hall" "laidIn" "[I", Cond.methodLink RX2 62 yX2_isDrawer, Cond.instanceMethod yX2_isDrawer, Cond.selects RX2 yX2_isDrawer yX2_isDrawer, Cond.code yX2_isDrawer cX2_isDrawer 2 (some .boolean), Cond.methodLink RX2 66 yX2_aheadOf, Cond.instanceMethod yX2_aheadOf]
def wsX2_digest_r2 : List Cond := [Cond.selects RX2 yX2_aheadOf yX2_aheadOf, Cond.code yX2_aheadOf cX2_aheadOf 2 (some .int), Cond.fieldLink RX2 59 "NineDrawers$Hall" "facing" "I", Cond.methodLink RX2 69 yX1_peopleOf, Cond.instanceMethod yX1_peopleOf, Cond.selects RX1 yX1_peopleOf yX1_peopleOf, Cond.initialized RX1, Cond.code yX1_peopleOf cX1_peopleOf 4 (some .int), Cond.fieldLink RX1 34 "NineDrawers$Hall" "people" "I", Cond.fieldLink RX1 15 "NineDrawers$Hall" "drawerOf" "[I", Cond.methodLink RX2 75 yX2_courseOf, Cond.instanceMethod yX2_courseOf, Cond.selects RX2 yX2_courseOf yX2_courseOf, Cond.code yX2_courseOf cX2_courseOf 3 (some (.object "NineDrawers$Course")), Cond.methodLink RX2 123 yX2_courseWithout, Cond.instanceMethod yX2_courseWithout, Cond.selects RX2 yX2_courseWithout yX2_courseWithout, Cond.code yX2_courseWithout cX2_courseWithout 4 (some (.object "NineDrawers$Course")), Cond.fieldLink RX2 29 "NineDrawers" "course" "LNineDrawers$Course;", Cond.fieldLink RX2 100 "NineDrawers$Hall" "drawerOf" "[I", Cond.fieldLink RX2 97 "NineDrawers$Hall" "kindOf" "[I", Cond.fieldLink RX2 103 "NineDrawers$Hall" "ownDayOf" "[I", Cond.methodLink RX2 225 yX0_start, Cond.instanceMethod yX0_start]
def wsX2_digest_r3 : List Cond := [Cond.selects RX0 yX0_start yX0_start, Cond.initialized RX0, Cond.code yX0_start cX0_start 3 none, Cond.fieldLink RX0 9 "NineDrawers$Course" "ahead" "I", Cond.fieldLink RX0 15 "NineDrawers$Course" "laid" "I", Cond.fieldLink RX0 18 "NineDrawers$Course" "putIfEmpty" "I", Cond.fieldLink RX0 21 "NineDrawers$Course" "putIfThere" "I", Cond.methodLink RX2 229 yX0_join, Cond.instanceMethod yX0_join, Cond.selects RX0 yX0_join yX0_join, Cond.code yX0_join cX0_join 3 none, Cond.static yX2_putsIfEmpty, Cond.code yX2_putsIfEmpty cX2_putsIfEmpty 2 (some .int), Cond.static yX2_putsIfThere, Cond.code yX2_putsIfThere cX2_putsIfThere 2 (some .int), Cond.methodLink RX2 160 yX0_settle, Cond.instanceMethod yX0_settle, Cond.selects RX0 yX0_settle yX0_settle, Cond.code yX0_settle cX0_settle 1 none, Cond.fieldLink RX0 35 "NineDrawers$Course" "canHold" "I", Cond.fieldLink RX0 38 "NineDrawers$Course" "canLack" "I", Cond.fieldLink RX0 45 "NineDrawers$Course" "stuck" "I", Cond.methodLink RX0 31 yX0_mustBe, Cond.instanceMethod yX0_mustBe]
def wsX2_digest_r4 : List Cond := [Cond.selects RX0 yX0_mustBe yX0_mustBe, Cond.code yX0_mustBe cX0_mustBe 3 (some .int), Cond.methodLink RX0 41 yX0_onlyWeek, Cond.instanceMethod yX0_onlyWeek, Cond.selects RX0 yX0_onlyWeek yX0_onlyWeek, Cond.code yX0_onlyWeek cX0_onlyWeek 3 (some .int), Cond.methodLink RX2 79 yX0_agreeing, Cond.instanceMethod yX0_agreeing, Cond.selects RX0 yX0_agreeing yX0_agreeing, Cond.code yX0_agreeing cX0_agreeing 1 (some .int), Cond.methodLink RX0 48 yJ6_bitCount_0f7a4, Cond.static yJ6_bitCount_0f7a4, Cond.initialized RJ6, Cond.code yJ6_bitCount_0f7a4 cJ6_bitCount_0f7a4 1 (some .int), Cond.constant RJ6 265 (1431655765), Cond.constant RJ6 266 (858993459), Cond.constant RJ6 267 (252645135), Cond.methodLink RX2 82 yX0_firstStuckDay, Cond.instanceMethod yX0_firstStuckDay, Cond.selects RX0 yX0_firstStuckDay yX0_firstStuckDay, Cond.code yX0_firstStuckDay cX0_firstStuckDay 2 (some .int), Cond.static yX2_bitOf, Cond.code yX2_bitOf cX2_bitOf 2 (some .int), Cond.methodLink RX2 85 yX0_leastWeek]
def wsX2_digest_r5 : List Cond := [Cond.instanceMethod yX0_leastWeek, Cond.selects RX0 yX0_leastWeek yX0_leastWeek, Cond.code yX0_leastWeek cX0_leastWeek 1 (some .int), Cond.methodLink RX2 210 yX2_sure, Cond.instanceMethod yX2_sure, Cond.selects RX2 yX2_sure yX2_sure, Cond.code yX2_sure cX2_sure 3 (some .int), Cond.methodLink RX2 91 yX2_isDay, Cond.static yX2_isDay, Cond.code yX2_isDay cX2_isDay 1 (some .boolean), Cond.methodLink RX2 130 yX0_sureOn, Cond.instanceMethod yX0_sureOn, Cond.selects RX0 yX0_sureOn yX0_sureOn, Cond.code yX0_sureOn cX0_sureOn 2 (some .int), Cond.methodLink RX2 213 yX2_delays, Cond.instanceMethod yX2_delays, Cond.selects RX2 yX2_delays yX2_delays, Cond.code yX2_delays cX2_delays 5 (some .int), Cond.fieldLink RX2 157 "NineDrawers$Course" "ahead" "I", Cond.methodLink RX2 163 yX2_isAsFound, Cond.instanceMethod yX2_isAsFound, Cond.selects RX2 yX2_isAsFound yX2_isAsFound, Cond.code yX2_isAsFound cX2_isAsFound 3 (some .boolean), Cond.fieldLink RX2 148 "NineDrawers$Hall" "foundThere" "[I"]
def wsX2_digest_r6 : List Cond := [Cond.fieldLink RX2 151 "NineDrawers$Hall" "foundEmpty" "[I", Cond.methodLink RX2 232 yX0_allows, Cond.instanceMethod yX0_allows, Cond.selects RX0 yX0_allows yX0_allows, Cond.code yX0_allows cX0_allows 3 (some .boolean), Cond.methodLink RX2 199 yX2_digestOfPerson, Cond.instanceMethod yX2_digestOfPerson, Cond.selects RX2 yX2_digestOfPerson yX2_digestOfPerson, Cond.code yX2_digestOfPerson cX2_digestOfPerson 7 (some .long), Cond.methodLink RX2 216 yX2_about, Cond.instanceMethod yX2_about, Cond.selects RX2 yX2_about yX2_about, Cond.code yX2_about cX2_about 5 (some .int), Cond.methodLink RX2 106 yX2_isPerson, Cond.instanceMethod yX2_isPerson, Cond.selects RX2 yX2_isPerson yX2_isPerson, Cond.code yX2_isPerson cX2_isPerson 2 (some .boolean), Cond.methodLink RX2 109 yX2_putsIfEmpty, Cond.methodLink RX2 113 yX2_bitOf, Cond.methodLink RX2 116 yX2_putsIfThere, Cond.methodLink RX2 219 yX2_who, Cond.instanceMethod yX2_who, Cond.selects RX2 yX2_who yX2_who, Cond.code yX2_who cX2_who 7 (some .int)]
def wsX2_digest_r7 : List Cond := [Cond.methodLink RX2 167 yX2_canBe, Cond.instanceMethod yX2_canBe, Cond.selects RX2 yX2_canBe yX2_canBe, Cond.code yX2_canBe cX2_canBe 6 (some .boolean), Cond.methodLink RX2 204 yX2_count, Cond.instanceMethod yX2_count, Cond.selects RX2 yX2_count yX2_count, Cond.code yX2_count cX2_count 2 (some .int), Cond.fieldLink RX2 145 "NineDrawers$Hall" "timesFound" "I", Cond.fieldLink RX2 56 "NineDrawers" "chestsRead" "I", Cond.fieldLink RX2 133 "NineDrawers" "fewDone" "I", Cond.methodLink RX2 187 yX2_drawersThatAgree, Cond.instanceMethod yX2_drawersThatAgree, Cond.selects RX2 yX2_drawersThatAgree yX2_drawersThatAgree, Cond.code yX2_drawersThatAgree cX2_drawersThatAgree 3 (some .int), Cond.fieldLink RX2 180 "NineDrawers$Course" "stuck" "I", Cond.methodLink RX2 190 yX1_thingsLaid, Cond.instanceMethod yX1_thingsLaid, Cond.selects RX1 yX1_thingsLaid yX1_thingsLaid, Cond.code yX1_thingsLaid cX1_thingsLaid 3 (some .int), Cond.fieldLink RX1 21 "NineDrawers$Hall" "laidIn" "[I", Cond.methodLink RX1 43 yJ6_bitCount_0f7a4]
def wsX2_digest : List Cond := .code yX2_digest cX2_digest 4 (some .long) :: ((wsX2_digest_r1 ++ (wsX2_digest_r2 ++ (wsX2_digest_r3 ++ (wsX2_digest_r4 ++ (wsX2_digest_r5 ++ (wsX2_digest_r6 ++ wsX2_digest_r7)))))) ++ wsX20 ++ wsX10 ++ wsX00)
def wsX3_init : List Cond := .code yX3_init cX3_init 1 none :: ([.methodLink RX3 1 objectInit, .instanceMethod objectInit, .code objectInit ⟨#[0xb1]⟩ 1 none, .arrayClass .int, .fieldLink RX3 7 "NineDrawersModel" "delayOf" "[I", .fieldLink RX3 13 "NineDrawersModel" "laidIn" "[I", .fieldLink RX3 16 "NineDrawersModel" "kindOf" "[I", .fieldLink RX3 19 "NineDrawersModel" "drawerOf" "[I", .fieldLink RX3 22 "NineDrawersModel" "dayOf" "[I", .fieldLink RX3 25 "NineDrawersModel" "foundIn" "[I", .fieldLink RX3 28 "NineDrawersModel" "foundOn" "[I", .fieldLink RX3 31 "NineDrawersModel" "foundIs" "[I", .arrayClass .byte, .fieldLink RX3 34 "NineDrawersModel" "page" "[B", .fieldLink RX3 38 "NineDrawersModel" "keptLaid" "[I", .fieldLink RX3 41 "NineDrawersModel" "keptDrawer" "[I", .fieldLink RX3 44 "NineDrawersModel" "keptDay" "[I", .fieldLink RX3 47 "NineDrawersModel" "keptIn" "[I", .fieldLink RX3 50 "NineDrawersModel" "keptOn" "[I", .fieldLink RX3 53 "NineDrawersModel" "keptIs" "[I"] ++ wsX30)
def wsX3_within : List Cond := .code yX3_within cX3_within 3 (some .boolean) :: ([])
def wsX3_has : List Cond := .code yX3_has cX3_has 2 (some .boolean) :: ([])
def wsX3_size : List Cond := .code yX3_size cX3_size 3 (some .int) :: ([])
def wsX3_letter : List Cond := .code yX3_letter cX3_letter 2 (some .int) :: ([.fieldLink RX3 60 "NineDrawersModel" "pageLength" "I", .fieldLink RX3 34 "NineDrawersModel" "page" "[B", .methodLink RX3 56 yX3_within, .static yX3_within, .initialized RX3, .code yX3_within cX3_within 3 (some .boolean)] ++ wsX30)
def wsX3_blank : List Cond := .code yX3_blank cX3_blank 2 (some .int) :: ([.fieldLink RX3 60 "NineDrawersModel" "pageLength" "I"] ++ wsX30)
def wsX3_delayBy : List Cond := .code yX3_delayBy cX3_delayBy 1 (some .int) :: ([])
def wsX3_faultNow : List Cond := .code yX3_faultNow cX3_faultNow 2 (some .int) :: ([.fieldLink RX3 60 "NineDrawersModel" "pageLength" "I", .fieldLink RX3 34 "NineDrawersModel" "page" "[B", .methodLink RX3 64 yX3_delayBy, .static yX3_delayBy, .initialized RX3, .code yX3_delayBy cX3_delayBy 1 (some .int), .methodLink RX3 56 yX3_within, .static yX3_within, .code yX3_within cX3_within 3 (some .boolean)] ++ wsX30)
def wsX3_fault : List Cond := .code yX3_fault cX3_fault 1 (some .int) :: ([.methodLink RX3 68 yX3_faultNow, .instanceMethod yX3_faultNow, .selects RX3 yX3_faultNow yX3_faultNow, .initialized RX3, .code yX3_faultNow cX3_faultNow 2 (some .int), .fieldLink RX3 60 "NineDrawersModel" "pageLength" "I", .fieldLink RX3 34 "NineDrawersModel" "page" "[B", .methodLink RX3 64 yX3_delayBy, .static yX3_delayBy, .code yX3_delayBy cX3_delayBy 1 (some .int), .methodLink RX3 56 yX3_within, .static yX3_within, .code yX3_within cX3_within 3 (some .boolean)] ++ wsX30)
def wsX3_chest : List Cond := .code yX3_chest cX3_chest 3 (some .int) :: ([.fieldLink RX3 60 "NineDrawersModel" "pageLength" "I", .fieldLink RX3 7 "NineDrawersModel" "delayOf" "[I", .fieldLink RX3 34 "NineDrawersModel" "page" "[B", .fieldLink RX3 13 "NineDrawersModel" "laidIn" "[I", .fieldLink RX3 72 "NineDrawersModel" "facing" "I", .fieldLink RX3 75 "NineDrawersModel" "isChest" "Z", .fieldLink RX3 79 "NineDrawersModel" "chests" "I", .fieldLink RX3 82 "NineDrawersModel" "people" "I", .fieldLink RX3 85 "NineDrawersModel" "found" "I", .methodLink RX3 68 yX3_faultNow, .instanceMethod yX3_faultNow, .selects RX3 yX3_faultNow yX3_faultNow, .initialized RX3, .code yX3_faultNow cX3_faultNow 2 (some .int), .methodLink RX3 64 yX3_delayBy, .static yX3_delayBy, .code yX3_delayBy cX3_delayBy 1 (some .int), .methodLink RX3 56 yX3_within, .static yX3_within, .code yX3_within cX3_within 3 (some .boolean)] ++ wsX30)
def wsX3_face : List Cond := .code yX3_face cX3_face 3 (some .int) :: ([.fieldLink RX3 75 "NineDrawersModel" "isChest" "Z", .fieldLink RX3 72 "NineDrawersModel" "facing" "I", .methodLink RX3 56 yX3_within, .static yX3_within, .initialized RX3, .code yX3_within cX3_within 3 (some .boolean)] ++ wsX30)
def wsX3_isDrawer : List Cond := .code yX3_isDrawer cX3_isDrawer 2 (some .boolean) :: ([.fieldLink RX3 75 "NineDrawersModel" "isChest" "Z", .methodLink RX3 56 yX3_within, .static yX3_within, .initialized RX3, .code yX3_within cX3_within 3 (some .boolean)] ++ wsX30)
def wsX3_isDay : List Cond := .code yX3_isDay cX3_isDay 1 (some .boolean) :: ([.methodLink RX3 56 yX3_within, .static yX3_within, .initialized RX3, .code yX3_within cX3_within 3 (some .boolean)])
def wsX3_aheadOf : List Cond := .code yX3_aheadOf cX3_aheadOf 2 (some .int) :: ([.fieldLink RX3 72 "NineDrawersModel" "facing" "I", .fieldLink RX3 7 "NineDrawersModel" "delayOf" "[I"] ++ wsX30)
def wsX3_puts : List Cond := .code yX3_puts cX3_puts 4 (some .boolean) :: ([])
def wsX3_putBy : List Cond := .code yX3_putBy cX3_putBy 6 (some .int) :: ([.fieldLink RX3 82 "NineDrawersModel" "people" "I", .fieldLink RX3 19 "NineDrawersModel" "drawerOf" "[I", .fieldLink RX3 16 "NineDrawersModel" "kindOf" "[I", .fieldLink RX3 22 "NineDrawersModel" "dayOf" "[I", .methodLink RX3 88 yX3_has, .static yX3_has, .initialized RX3, .code yX3_has cX3_has 2 (some .boolean), .methodLink RX3 92 yX3_puts, .static yX3_puts, .code yX3_puts cX3_puts 4 (some .boolean)] ++ wsX30)
def wsX3_firstWrong : List Cond := .code yX3_firstWrong cX3_firstWrong 8 (some .int) :: ([.methodLink RX3 96 yX3_putBy, .instanceMethod yX3_putBy, .selects RX3 yX3_putBy yX3_putBy, .initialized RX3, .code yX3_putBy cX3_putBy 6 (some .int), .fieldLink RX3 82 "NineDrawersModel" "people" "I", .fieldLink RX3 19 "NineDrawersModel" "drawerOf" "[I", .fieldLink RX3 16 "NineDrawersModel" "kindOf" "[I", .fieldLink RX3 22 "NineDrawersModel" "dayOf" "[I", .methodLink RX3 88 yX3_has, .static yX3_has, .code yX3_has cX3_has 2 (some .boolean), .methodLink RX3 92 yX3_puts, .static yX3_puts, .code yX3_puts cX3_puts 4 (some .boolean)] ++ wsX30)
def wsX3_isSo_r1 : List Cond := [Cond.fieldLink RX3 13 "NineDrawersModel" "laidIn" "[I", Cond.methodLink RX3 100 yX3_aheadOf, Cond.instanceMethod yX3_aheadOf, Cond.selects RX3 yX3_aheadOf yX3_aheadOf, Cond.initialized RX3, Cond.code yX3_aheadOf cX3_aheadOf 2 (some .int), Cond.fieldLink RX3 72 "NineDrawersModel" "facing" "I", Cond.fieldLink RX3 7 "NineDrawersModel" "delayOf" "[I", Cond.methodLink RX3 103 yX3_firstWrong, Cond.instanceMethod yX3_firstWrong, Cond.selects RX3 yX3_firstWrong yX3_firstWrong, Cond.code yX3_firstWrong cX3_firstWrong 8 (some .int), Cond.methodLink RX3 96 yX3_putBy, Cond.instanceMethod yX3_putBy, Cond.selects RX3 yX3_putBy yX3_putBy, Cond.code yX3_putBy cX3_putBy 6 (some .int), Cond.fieldLink RX3 82 "NineDrawersModel" "people" "I", Cond.fieldLink RX3 19 "NineDrawersModel" "drawerOf" "[I", Cond.fieldLink RX3 16 "NineDrawersModel" "kindOf" "[I", Cond.fieldLink RX3 22 "NineDrawersModel" "dayOf" "[I", Cond.methodLink RX3 88 yX3_has, Cond.static yX3_has, Cond.code yX3_has cX3_has 2 (some .boolean), Cond.methodLink RX3 92 yX3_puts]
def wsX3_isSo_r2 : List Cond := [Cond.static yX3_puts, Cond.code yX3_puts cX3_puts 4 (some .boolean)]
def wsX3_isSo : List Cond := .code yX3_isSo cX3_isSo 3 (some .boolean) :: ((wsX3_isSo_r1 ++ wsX3_isSo_r2) ++ wsX30)
def wsX3_agreeing_r1 : List Cond := [Cond.methodLink RX3 107 yX3_isSo, Cond.instanceMethod yX3_isSo, Cond.selects RX3 yX3_isSo yX3_isSo, Cond.initialized RX3, Cond.code yX3_isSo cX3_isSo 3 (some .boolean), Cond.fieldLink RX3 13 "NineDrawersModel" "laidIn" "[I", Cond.methodLink RX3 100 yX3_aheadOf, Cond.instanceMethod yX3_aheadOf, Cond.selects RX3 yX3_aheadOf yX3_aheadOf, Cond.code yX3_aheadOf cX3_aheadOf 2 (some .int), Cond.fieldLink RX3 72 "NineDrawersModel" "facing" "I", Cond.fieldLink RX3 7 "NineDrawersModel" "delayOf" "[I", Cond.methodLink RX3 103 yX3_firstWrong, Cond.instanceMethod yX3_firstWrong, Cond.selects RX3 yX3_firstWrong yX3_firstWrong, Cond.code yX3_firstWrong cX3_firstWrong 8 (some .int), Cond.methodLink RX3 96 yX3_putBy, Cond.instanceMethod yX3_putBy, Cond.selects RX3 yX3_putBy yX3_putBy, Cond.code yX3_putBy cX3_putBy 6 (some .int), Cond.fieldLink RX3 82 "NineDrawersModel" "people" "I", Cond.fieldLink RX3 19 "NineDrawersModel" "drawerOf" "[I", Cond.fieldLink RX3 16 "NineDrawersModel" "kindOf" "[I", Cond.fieldLink RX3 22 "NineDrawersModel" "dayOf" "[I"]
def wsX3_agreeing_r2 : List Cond := [Cond.methodLink RX3 88 yX3_has, Cond.static yX3_has, Cond.code yX3_has cX3_has 2 (some .boolean), Cond.methodLink RX3 92 yX3_puts, Cond.static yX3_puts, Cond.code yX3_puts cX3_puts 4 (some .boolean)]
def wsX3_agreeing : List Cond := .code yX3_agreeing cX3_agreeing 4 (some .int) :: ((wsX3_agreeing_r1 ++ wsX3_agreeing_r2) ++ wsX30)
def wsX3_cannotOf_r1 : List Cond := [Cond.fieldLink RX3 13 "NineDrawersModel" "laidIn" "[I", Cond.methodLink RX3 100 yX3_aheadOf, Cond.instanceMethod yX3_aheadOf, Cond.selects RX3 yX3_aheadOf yX3_aheadOf, Cond.initialized RX3, Cond.code yX3_aheadOf cX3_aheadOf 2 (some .int), Cond.fieldLink RX3 72 "NineDrawersModel" "facing" "I", Cond.fieldLink RX3 7 "NineDrawersModel" "delayOf" "[I", Cond.methodLink RX3 103 yX3_firstWrong, Cond.instanceMethod yX3_firstWrong, Cond.selects RX3 yX3_firstWrong yX3_firstWrong, Cond.code yX3_firstWrong cX3_firstWrong 8 (some .int), Cond.methodLink RX3 96 yX3_putBy, Cond.instanceMethod yX3_putBy, Cond.selects RX3 yX3_putBy yX3_putBy, Cond.code yX3_putBy cX3_putBy 6 (some .int), Cond.fieldLink RX3 82 "NineDrawersModel" "people" "I", Cond.fieldLink RX3 19 "NineDrawersModel" "drawerOf" "[I", Cond.fieldLink RX3 16 "NineDrawersModel" "kindOf" "[I", Cond.fieldLink RX3 22 "NineDrawersModel" "dayOf" "[I", Cond.methodLink RX3 88 yX3_has, Cond.static yX3_has, Cond.code yX3_has cX3_has 2 (some .boolean), Cond.methodLink RX3 92 yX3_puts]
def wsX3_cannotOf_r2 : List Cond := [Cond.static yX3_puts, Cond.code yX3_puts cX3_puts 4 (some .boolean)]
def wsX3_cannotOf : List Cond := .code yX3_cannotOf cX3_cannotOf 5 (some .int) :: ((wsX3_cannotOf_r1 ++ wsX3_cannotOf_r2) ++ wsX30)
def wsX3_leastOf_r1 : List Cond := [Cond.methodLink RX3 107 yX3_isSo, Cond.instanceMethod yX3_isSo, Cond.selects RX3 yX3_isSo yX3_isSo, Cond.initialized RX3, Cond.code yX3_isSo cX3_isSo 3 (some .boolean), Cond.fieldLink RX3 13 "NineDrawersModel" "laidIn" "[I", Cond.methodLink RX3 100 yX3_aheadOf, Cond.instanceMethod yX3_aheadOf, Cond.selects RX3 yX3_aheadOf yX3_aheadOf, Cond.code yX3_aheadOf cX3_aheadOf 2 (some .int), Cond.fieldLink RX3 72 "NineDrawersModel" "facing" "I", Cond.fieldLink RX3 7 "NineDrawersModel" "delayOf" "[I", Cond.methodLink RX3 103 yX3_firstWrong, Cond.instanceMethod yX3_firstWrong, Cond.selects RX3 yX3_firstWrong yX3_firstWrong, Cond.code yX3_firstWrong cX3_firstWrong 8 (some .int), Cond.methodLink RX3 96 yX3_putBy, Cond.instanceMethod yX3_putBy, Cond.selects RX3 yX3_putBy yX3_putBy, Cond.code yX3_putBy cX3_putBy 6 (some .int), Cond.fieldLink RX3 82 "NineDrawersModel" "people" "I", Cond.fieldLink RX3 19 "NineDrawersModel" "drawerOf" "[I", Cond.fieldLink RX3 16 "NineDrawersModel" "kindOf" "[I", Cond.fieldLink RX3 22 "NineDrawersModel" "dayOf" "[I"]
def wsX3_leastOf_r2 : List Cond := [Cond.methodLink RX3 88 yX3_has, Cond.static yX3_has, Cond.code yX3_has cX3_has 2 (some .boolean), Cond.methodLink RX3 92 yX3_puts, Cond.static yX3_puts, Cond.code yX3_puts cX3_puts 4 (some .boolean)]
def wsX3_leastOf : List Cond := .code yX3_leastOf cX3_leastOf 3 (some .int) :: ((wsX3_leastOf_r1 ++ wsX3_leastOf_r2) ++ wsX30)
def wsX3_peopleOf : List Cond := .code yX3_peopleOf cX3_peopleOf 4 (some .int) :: ([.fieldLink RX3 82 "NineDrawersModel" "people" "I", .fieldLink RX3 19 "NineDrawersModel" "drawerOf" "[I"] ++ wsX30)
def wsX3_drawerNow_r1 : List Cond := [Cond.fieldLink RX3 7 "NineDrawersModel" "delayOf" "[I", Cond.fieldLink RX3 13 "NineDrawersModel" "laidIn" "[I", Cond.methodLink RX3 100 yX3_aheadOf, Cond.instanceMethod yX3_aheadOf, Cond.selects RX3 yX3_aheadOf yX3_aheadOf, Cond.initialized RX3, Cond.code yX3_aheadOf cX3_aheadOf 2 (some .int), Cond.fieldLink RX3 72 "NineDrawersModel" "facing" "I", Cond.methodLink RX3 110 yX3_peopleOf, Cond.instanceMethod yX3_peopleOf, Cond.selects RX3 yX3_peopleOf yX3_peopleOf, Cond.code yX3_peopleOf cX3_peopleOf 4 (some .int), Cond.fieldLink RX3 82 "NineDrawersModel" "people" "I", Cond.fieldLink RX3 19 "NineDrawersModel" "drawerOf" "[I", Cond.methodLink RX3 113 yX3_agreeing, Cond.instanceMethod yX3_agreeing, Cond.selects RX3 yX3_agreeing yX3_agreeing, Cond.code yX3_agreeing cX3_agreeing 4 (some .int), Cond.methodLink RX3 107 yX3_isSo, Cond.instanceMethod yX3_isSo, Cond.selects RX3 yX3_isSo yX3_isSo, Cond.code yX3_isSo cX3_isSo 3 (some .boolean), Cond.methodLink RX3 103 yX3_firstWrong, Cond.instanceMethod yX3_firstWrong]
def wsX3_drawerNow_r2 : List Cond := [Cond.selects RX3 yX3_firstWrong yX3_firstWrong, Cond.code yX3_firstWrong cX3_firstWrong 8 (some .int), Cond.methodLink RX3 96 yX3_putBy, Cond.instanceMethod yX3_putBy, Cond.selects RX3 yX3_putBy yX3_putBy, Cond.code yX3_putBy cX3_putBy 6 (some .int), Cond.fieldLink RX3 16 "NineDrawersModel" "kindOf" "[I", Cond.fieldLink RX3 22 "NineDrawersModel" "dayOf" "[I", Cond.methodLink RX3 88 yX3_has, Cond.static yX3_has, Cond.code yX3_has cX3_has 2 (some .boolean), Cond.methodLink RX3 92 yX3_puts, Cond.static yX3_puts, Cond.code yX3_puts cX3_puts 4 (some .boolean), Cond.methodLink RX3 116 yX3_cannotOf, Cond.instanceMethod yX3_cannotOf, Cond.selects RX3 yX3_cannotOf yX3_cannotOf, Cond.code yX3_cannotOf cX3_cannotOf 5 (some .int), Cond.methodLink RX3 119 yX3_leastOf, Cond.instanceMethod yX3_leastOf, Cond.selects RX3 yX3_leastOf yX3_leastOf, Cond.code yX3_leastOf cX3_leastOf 3 (some .int)]
def wsX3_drawerNow : List Cond := .code yX3_drawerNow cX3_drawerNow 3 (some .int) :: ((wsX3_drawerNow_r1 ++ wsX3_drawerNow_r2) ++ wsX30)
def wsX3_drawer_r1 : List Cond := [Cond.methodLink RX3 122 yX3_isDrawer, Cond.instanceMethod yX3_isDrawer, Cond.selects RX3 yX3_isDrawer yX3_isDrawer, Cond.initialized RX3, Cond.code yX3_isDrawer cX3_isDrawer 2 (some .boolean), Cond.fieldLink RX3 75 "NineDrawersModel" "isChest" "Z", Cond.methodLink RX3 56 yX3_within, Cond.static yX3_within, Cond.code yX3_within cX3_within 3 (some .boolean), Cond.methodLink RX3 126 yX3_drawerNow, Cond.instanceMethod yX3_drawerNow, Cond.selects RX3 yX3_drawerNow yX3_drawerNow, Cond.code yX3_drawerNow cX3_drawerNow 3 (some .int), Cond.fieldLink RX3 7 "NineDrawersModel" "delayOf" "[I", Cond.fieldLink RX3 13 "NineDrawersModel" "laidIn" "[I", Cond.methodLink RX3 100 yX3_aheadOf, Cond.instanceMethod yX3_aheadOf, Cond.selects RX3 yX3_aheadOf yX3_aheadOf, Cond.code yX3_aheadOf cX3_aheadOf 2 (some .int), Cond.fieldLink RX3 72 "NineDrawersModel" "facing" "I", Cond.methodLink RX3 110 yX3_peopleOf, Cond.instanceMethod yX3_peopleOf, Cond.selects RX3 yX3_peopleOf yX3_peopleOf, Cond.code yX3_peopleOf cX3_peopleOf 4 (some .int)]
def wsX3_drawer_r2 : List Cond := [Cond.fieldLink RX3 82 "NineDrawersModel" "people" "I", Cond.fieldLink RX3 19 "NineDrawersModel" "drawerOf" "[I", Cond.methodLink RX3 113 yX3_agreeing, Cond.instanceMethod yX3_agreeing, Cond.selects RX3 yX3_agreeing yX3_agreeing, Cond.code yX3_agreeing cX3_agreeing 4 (some .int), Cond.methodLink RX3 107 yX3_isSo, Cond.instanceMethod yX3_isSo, Cond.selects RX3 yX3_isSo yX3_isSo, Cond.code yX3_isSo cX3_isSo 3 (some .boolean), Cond.methodLink RX3 103 yX3_firstWrong, Cond.instanceMethod yX3_firstWrong, Cond.selects RX3 yX3_firstWrong yX3_firstWrong, Cond.code yX3_firstWrong cX3_firstWrong 8 (some .int), Cond.methodLink RX3 96 yX3_putBy, Cond.instanceMethod yX3_putBy, Cond.selects RX3 yX3_putBy yX3_putBy, Cond.code yX3_putBy cX3_putBy 6 (some .int), Cond.fieldLink RX3 16 "NineDrawersModel" "kindOf" "[I", Cond.fieldLink RX3 22 "NineDrawersModel" "dayOf" "[I", Cond.methodLink RX3 88 yX3_has, Cond.static yX3_has, Cond.code yX3_has cX3_has 2 (some .boolean), Cond.methodLink RX3 92 yX3_puts]
def wsX3_drawer_r3 : List Cond := [Cond.static yX3_puts, Cond.code yX3_puts cX3_puts 4 (some .boolean), Cond.methodLink RX3 116 yX3_cannotOf, Cond.instanceMethod yX3_cannotOf, Cond.selects RX3 yX3_cannotOf yX3_cannotOf, Cond.code yX3_cannotOf cX3_cannotOf 5 (some .int), Cond.methodLink RX3 119 yX3_leastOf, Cond.instanceMethod yX3_leastOf, Cond.selects RX3 yX3_leastOf yX3_leastOf, Cond.code yX3_leastOf cX3_leastOf 3 (some .int)]
def wsX3_drawer : List Cond := .code yX3_drawer cX3_drawer 3 (some .int) :: ((wsX3_drawer_r1 ++ (wsX3_drawer_r2 ++ wsX3_drawer_r3)) ++ wsX30)
def wsX3_isPerson : List Cond := .code yX3_isPerson cX3_isPerson 2 (some .boolean) :: ([.fieldLink RX3 82 "NineDrawersModel" "people" "I", .methodLink RX3 56 yX3_within, .static yX3_within, .initialized RX3, .code yX3_within cX3_within 3 (some .boolean)] ++ wsX30)
def wsX3_person : List Cond := .code yX3_person cX3_person 4 (some .int) :: ([.fieldLink RX3 82 "NineDrawersModel" "people" "I", .fieldLink RX3 16 "NineDrawersModel" "kindOf" "[I", .fieldLink RX3 19 "NineDrawersModel" "drawerOf" "[I", .fieldLink RX3 22 "NineDrawersModel" "dayOf" "[I", .methodLink RX3 56 yX3_within, .static yX3_within, .initialized RX3, .code yX3_within cX3_within 3 (some .boolean), .methodLink RX3 122 yX3_isDrawer, .instanceMethod yX3_isDrawer, .selects RX3 yX3_isDrawer yX3_isDrawer, .code yX3_isDrawer cX3_isDrawer 2 (some .boolean), .fieldLink RX3 75 "NineDrawersModel" "isChest" "Z", .methodLink RX3 129 yX3_isDay, .static yX3_isDay, .code yX3_isDay cX3_isDay 1 (some .boolean)] ++ wsX30)
def wsX3_personNow : List Cond := .code yX3_personNow cX3_personNow 3 (some .int) :: ([.fieldLink RX3 16 "NineDrawersModel" "kindOf" "[I", .fieldLink RX3 22 "NineDrawersModel" "dayOf" "[I", .fieldLink RX3 19 "NineDrawersModel" "drawerOf" "[I", .methodLink RX3 92 yX3_puts, .static yX3_puts, .initialized RX3, .code yX3_puts cX3_puts 4 (some .boolean)] ++ wsX30)
def wsX3_about : List Cond := .code yX3_about cX3_about 4 (some .int) :: ([.methodLink RX3 56 yX3_within, .static yX3_within, .initialized RX3, .code yX3_within cX3_within 3 (some .boolean), .methodLink RX3 132 yX3_isPerson, .instanceMethod yX3_isPerson, .selects RX3 yX3_isPerson yX3_isPerson, .code yX3_isPerson cX3_isPerson 2 (some .boolean), .fieldLink RX3 82 "NineDrawersModel" "people" "I", .methodLink RX3 135 yX3_personNow, .instanceMethod yX3_personNow, .selects RX3 yX3_personNow yX3_personNow, .code yX3_personNow cX3_personNow 3 (some .int), .fieldLink RX3 16 "NineDrawersModel" "kindOf" "[I", .fieldLink RX3 22 "NineDrawersModel" "dayOf" "[I", .fieldLink RX3 19 "NineDrawersModel" "drawerOf" "[I", .methodLink RX3 92 yX3_puts, .static yX3_puts, .code yX3_puts cX3_puts 4 (some .boolean)] ++ wsX30)
def wsX3_as : List Cond := .code yX3_as cX3_as 4 (some .int) :: ([.fieldLink RX3 16 "NineDrawersModel" "kindOf" "[I", .methodLink RX3 132 yX3_isPerson, .instanceMethod yX3_isPerson, .selects RX3 yX3_isPerson yX3_isPerson, .initialized RX3, .code yX3_isPerson cX3_isPerson 2 (some .boolean), .fieldLink RX3 82 "NineDrawersModel" "people" "I", .methodLink RX3 56 yX3_within, .static yX3_within, .code yX3_within cX3_within 3 (some .boolean)] ++ wsX30)
def wsX3_move : List Cond := .code yX3_move cX3_move 4 (some .int) :: ([.fieldLink RX3 19 "NineDrawersModel" "drawerOf" "[I", .methodLink RX3 132 yX3_isPerson, .instanceMethod yX3_isPerson, .selects RX3 yX3_isPerson yX3_isPerson, .initialized RX3, .code yX3_isPerson cX3_isPerson 2 (some .boolean), .fieldLink RX3 82 "NineDrawersModel" "people" "I", .methodLink RX3 56 yX3_within, .static yX3_within, .code yX3_within cX3_within 3 (some .boolean), .methodLink RX3 122 yX3_isDrawer, .instanceMethod yX3_isDrawer, .selects RX3 yX3_isDrawer yX3_isDrawer, .code yX3_isDrawer cX3_isDrawer 2 (some .boolean), .fieldLink RX3 75 "NineDrawersModel" "isChest" "Z"] ++ wsX30)
def wsX3_lay : List Cond := .code yX3_lay cX3_lay 5 (some .int) :: ([.fieldLink RX3 13 "NineDrawersModel" "laidIn" "[I", .methodLink RX3 122 yX3_isDrawer, .instanceMethod yX3_isDrawer, .selects RX3 yX3_isDrawer yX3_isDrawer, .initialized RX3, .code yX3_isDrawer cX3_isDrawer 2 (some .boolean), .fieldLink RX3 75 "NineDrawersModel" "isChest" "Z", .methodLink RX3 56 yX3_within, .static yX3_within, .code yX3_within cX3_within 3 (some .boolean), .methodLink RX3 129 yX3_isDay, .static yX3_isDay, .code yX3_isDay cX3_isDay 1 (some .boolean)] ++ wsX30)
def wsX3_agrees_r1 : List Cond := [Cond.methodLink RX3 122 yX3_isDrawer, Cond.instanceMethod yX3_isDrawer, Cond.selects RX3 yX3_isDrawer yX3_isDrawer, Cond.initialized RX3, Cond.code yX3_isDrawer cX3_isDrawer 2 (some .boolean), Cond.fieldLink RX3 75 "NineDrawersModel" "isChest" "Z", Cond.methodLink RX3 56 yX3_within, Cond.static yX3_within, Cond.code yX3_within cX3_within 3 (some .boolean), Cond.methodLink RX3 107 yX3_isSo, Cond.instanceMethod yX3_isSo, Cond.selects RX3 yX3_isSo yX3_isSo, Cond.code yX3_isSo cX3_isSo 3 (some .boolean), Cond.fieldLink RX3 13 "NineDrawersModel" "laidIn" "[I", Cond.methodLink RX3 100 yX3_aheadOf, Cond.instanceMethod yX3_aheadOf, Cond.selects RX3 yX3_aheadOf yX3_aheadOf, Cond.code yX3_aheadOf cX3_aheadOf 2 (some .int), Cond.fieldLink RX3 72 "NineDrawersModel" "facing" "I", Cond.fieldLink RX3 7 "NineDrawersModel" "delayOf" "[I", Cond.methodLink RX3 103 yX3_firstWrong, Cond.instanceMethod yX3_firstWrong, Cond.selects RX3 yX3_firstWrong yX3_firstWrong, Cond.code yX3_firstWrong cX3_firstWrong 8 (some .int)]
def wsX3_agrees_r2 : List Cond := [Cond.methodLink RX3 96 yX3_putBy, Cond.instanceMethod yX3_putBy, Cond.selects RX3 yX3_putBy yX3_putBy, Cond.code yX3_putBy cX3_putBy 6 (some .int), Cond.fieldLink RX3 82 "NineDrawersModel" "people" "I", Cond.fieldLink RX3 19 "NineDrawersModel" "drawerOf" "[I", Cond.fieldLink RX3 16 "NineDrawersModel" "kindOf" "[I", Cond.fieldLink RX3 22 "NineDrawersModel" "dayOf" "[I", Cond.methodLink RX3 88 yX3_has, Cond.static yX3_has, Cond.code yX3_has cX3_has 2 (some .boolean), Cond.methodLink RX3 92 yX3_puts, Cond.static yX3_puts, Cond.code yX3_puts cX3_puts 4 (some .boolean)]
def wsX3_agrees : List Cond := .code yX3_agrees cX3_agrees 3 (some .int) :: ((wsX3_agrees_r1 ++ wsX3_agrees_r2) ++ wsX30)
def wsX3_sureNow_r1 : List Cond := [Cond.methodLink RX3 107 yX3_isSo, Cond.instanceMethod yX3_isSo, Cond.selects RX3 yX3_isSo yX3_isSo, Cond.initialized RX3, Cond.code yX3_isSo cX3_isSo 3 (some .boolean), Cond.fieldLink RX3 13 "NineDrawersModel" "laidIn" "[I", Cond.methodLink RX3 100 yX3_aheadOf, Cond.instanceMethod yX3_aheadOf, Cond.selects RX3 yX3_aheadOf yX3_aheadOf, Cond.code yX3_aheadOf cX3_aheadOf 2 (some .int), Cond.fieldLink RX3 72 "NineDrawersModel" "facing" "I", Cond.fieldLink RX3 7 "NineDrawersModel" "delayOf" "[I", Cond.methodLink RX3 103 yX3_firstWrong, Cond.instanceMethod yX3_firstWrong, Cond.selects RX3 yX3_firstWrong yX3_firstWrong, Cond.code yX3_firstWrong cX3_firstWrong 8 (some .int), Cond.methodLink RX3 96 yX3_putBy, Cond.instanceMethod yX3_putBy, Cond.selects RX3 yX3_putBy yX3_putBy, Cond.code yX3_putBy cX3_putBy 6 (some .int), Cond.fieldLink RX3 82 "NineDrawersModel" "people" "I", Cond.fieldLink RX3 19 "NineDrawersModel" "drawerOf" "[I", Cond.fieldLink RX3 16 "NineDrawersModel" "kindOf" "[I", Cond.fieldLink RX3 22 "NineDrawersModel" "dayOf" "[I"]
def wsX3_sureNow_r2 : List Cond := [Cond.methodLink RX3 88 yX3_has, Cond.static yX3_has, Cond.code yX3_has cX3_has 2 (some .boolean), Cond.methodLink RX3 92 yX3_puts, Cond.static yX3_puts, Cond.code yX3_puts cX3_puts 4 (some .boolean)]
def wsX3_sureNow : List Cond := .code yX3_sureNow cX3_sureNow 5 (some .int) :: ((wsX3_sureNow_r1 ++ wsX3_sureNow_r2) ++ wsX30)
def wsX3_sure_r1 : List Cond := [Cond.methodLink RX3 122 yX3_isDrawer, Cond.instanceMethod yX3_isDrawer, Cond.selects RX3 yX3_isDrawer yX3_isDrawer, Cond.initialized RX3, Cond.code yX3_isDrawer cX3_isDrawer 2 (some .boolean), Cond.fieldLink RX3 75 "NineDrawersModel" "isChest" "Z", Cond.methodLink RX3 56 yX3_within, Cond.static yX3_within, Cond.code yX3_within cX3_within 3 (some .boolean), Cond.methodLink RX3 129 yX3_isDay, Cond.static yX3_isDay, Cond.code yX3_isDay cX3_isDay 1 (some .boolean), Cond.methodLink RX3 138 yX3_sureNow, Cond.instanceMethod yX3_sureNow, Cond.selects RX3 yX3_sureNow yX3_sureNow, Cond.code yX3_sureNow cX3_sureNow 5 (some .int), Cond.methodLink RX3 107 yX3_isSo, Cond.instanceMethod yX3_isSo, Cond.selects RX3 yX3_isSo yX3_isSo, Cond.code yX3_isSo cX3_isSo 3 (some .boolean), Cond.fieldLink RX3 13 "NineDrawersModel" "laidIn" "[I", Cond.methodLink RX3 100 yX3_aheadOf, Cond.instanceMethod yX3_aheadOf, Cond.selects RX3 yX3_aheadOf yX3_aheadOf]
def wsX3_sure_r2 : List Cond := [Cond.code yX3_aheadOf cX3_aheadOf 2 (some .int), Cond.fieldLink RX3 72 "NineDrawersModel" "facing" "I", Cond.fieldLink RX3 7 "NineDrawersModel" "delayOf" "[I", Cond.methodLink RX3 103 yX3_firstWrong, Cond.instanceMethod yX3_firstWrong, Cond.selects RX3 yX3_firstWrong yX3_firstWrong, Cond.code yX3_firstWrong cX3_firstWrong 8 (some .int), Cond.methodLink RX3 96 yX3_putBy, Cond.instanceMethod yX3_putBy, Cond.selects RX3 yX3_putBy yX3_putBy, Cond.code yX3_putBy cX3_putBy 6 (some .int), Cond.fieldLink RX3 82 "NineDrawersModel" "people" "I", Cond.fieldLink RX3 19 "NineDrawersModel" "drawerOf" "[I", Cond.fieldLink RX3 16 "NineDrawersModel" "kindOf" "[I", Cond.fieldLink RX3 22 "NineDrawersModel" "dayOf" "[I", Cond.methodLink RX3 88 yX3_has, Cond.static yX3_has, Cond.code yX3_has cX3_has 2 (some .boolean), Cond.methodLink RX3 92 yX3_puts, Cond.static yX3_puts, Cond.code yX3_puts cX3_puts 4 (some .boolean)]
def wsX3_sure : List Cond := .code yX3_sure cX3_sure 3 (some .int) :: ((wsX3_sure_r1 ++ wsX3_sure_r2) ++ wsX30)
def wsX3_isEnough_r1 : List Cond := [Cond.methodLink RX3 100 yX3_aheadOf, Cond.instanceMethod yX3_aheadOf, Cond.selects RX3 yX3_aheadOf yX3_aheadOf, Cond.initialized RX3, Cond.code yX3_aheadOf cX3_aheadOf 2 (some .int), Cond.fieldLink RX3 72 "NineDrawersModel" "facing" "I", Cond.fieldLink RX3 7 "NineDrawersModel" "delayOf" "[I", Cond.methodLink RX3 103 yX3_firstWrong, Cond.instanceMethod yX3_firstWrong, Cond.selects RX3 yX3_firstWrong yX3_firstWrong, Cond.code yX3_firstWrong cX3_firstWrong 8 (some .int), Cond.methodLink RX3 96 yX3_putBy, Cond.instanceMethod yX3_putBy, Cond.selects RX3 yX3_putBy yX3_putBy, Cond.code yX3_putBy cX3_putBy 6 (some .int), Cond.fieldLink RX3 82 "NineDrawersModel" "people" "I", Cond.fieldLink RX3 19 "NineDrawersModel" "drawerOf" "[I", Cond.fieldLink RX3 16 "NineDrawersModel" "kindOf" "[I", Cond.fieldLink RX3 22 "NineDrawersModel" "dayOf" "[I", Cond.methodLink RX3 88 yX3_has, Cond.static yX3_has, Cond.code yX3_has cX3_has 2 (some .boolean), Cond.methodLink RX3 92 yX3_puts, Cond.static yX3_puts]
def wsX3_isEnough_r2 : List Cond := [Cond.code yX3_puts cX3_puts 4 (some .boolean)]
def wsX3_isEnough : List Cond := .code yX3_isEnough cX3_isEnough 7 (some .boolean) :: ((wsX3_isEnough_r1 ++ wsX3_isEnough_r2) ++ wsX30)
def wsX3_fewNow_r1 : List Cond := [Cond.methodLink RX3 141 yX3_size, Cond.static yX3_size, Cond.initialized RX3, Cond.code yX3_size cX3_size 3 (some .int), Cond.methodLink RX3 144 yX3_isEnough, Cond.instanceMethod yX3_isEnough, Cond.selects RX3 yX3_isEnough yX3_isEnough, Cond.code yX3_isEnough cX3_isEnough 7 (some .boolean), Cond.methodLink RX3 100 yX3_aheadOf, Cond.instanceMethod yX3_aheadOf, Cond.selects RX3 yX3_aheadOf yX3_aheadOf, Cond.code yX3_aheadOf cX3_aheadOf 2 (some .int), Cond.fieldLink RX3 72 "NineDrawersModel" "facing" "I", Cond.fieldLink RX3 7 "NineDrawersModel" "delayOf" "[I", Cond.methodLink RX3 103 yX3_firstWrong, Cond.instanceMethod yX3_firstWrong, Cond.selects RX3 yX3_firstWrong yX3_firstWrong, Cond.code yX3_firstWrong cX3_firstWrong 8 (some .int), Cond.methodLink RX3 96 yX3_putBy, Cond.instanceMethod yX3_putBy, Cond.selects RX3 yX3_putBy yX3_putBy, Cond.code yX3_putBy cX3_putBy 6 (some .int), Cond.fieldLink RX3 82 "NineDrawersModel" "people" "I", Cond.fieldLink RX3 19 "NineDrawersModel" "drawerOf" "[I"]
def wsX3_fewNow_r2 : List Cond := [Cond.fieldLink RX3 16 "NineDrawersModel" "kindOf" "[I", Cond.fieldLink RX3 22 "NineDrawersModel" "dayOf" "[I", Cond.methodLink RX3 88 yX3_has, Cond.static yX3_has, Cond.code yX3_has cX3_has 2 (some .boolean), Cond.methodLink RX3 92 yX3_puts, Cond.static yX3_puts, Cond.code yX3_puts cX3_puts 4 (some .boolean)]
def wsX3_fewNow : List Cond := .code yX3_fewNow cX3_fewNow 7 (some .int) :: ((wsX3_fewNow_r1 ++ wsX3_fewNow_r2) ++ wsX30)
def wsX3_few_r1 : List Cond := [Cond.fieldLink RX3 147 "NineDrawersModel" "asks" "I", Cond.methodLink RX3 122 yX3_isDrawer, Cond.instanceMethod yX3_isDrawer, Cond.selects RX3 yX3_isDrawer yX3_isDrawer, Cond.initialized RX3, Cond.code yX3_isDrawer cX3_isDrawer 2 (some .boolean), Cond.fieldLink RX3 75 "NineDrawersModel" "isChest" "Z", Cond.methodLink RX3 56 yX3_within, Cond.static yX3_within, Cond.code yX3_within cX3_within 3 (some .boolean), Cond.methodLink RX3 150 yX3_fewNow, Cond.instanceMethod yX3_fewNow, Cond.selects RX3 yX3_fewNow yX3_fewNow, Cond.code yX3_fewNow cX3_fewNow 7 (some .int), Cond.methodLink RX3 141 yX3_size, Cond.static yX3_size, Cond.code yX3_size cX3_size 3 (some .int), Cond.methodLink RX3 144 yX3_isEnough, Cond.instanceMethod yX3_isEnough, Cond.selects RX3 yX3_isEnough yX3_isEnough, Cond.code yX3_isEnough cX3_isEnough 7 (some .boolean), Cond.methodLink RX3 100 yX3_aheadOf, Cond.instanceMethod yX3_aheadOf, Cond.selects RX3 yX3_aheadOf yX3_aheadOf]
def wsX3_few_r2 : List Cond := [Cond.code yX3_aheadOf cX3_aheadOf 2 (some .int), Cond.fieldLink RX3 72 "NineDrawersModel" "facing" "I", Cond.fieldLink RX3 7 "NineDrawersModel" "delayOf" "[I", Cond.methodLink RX3 103 yX3_firstWrong, Cond.instanceMethod yX3_firstWrong, Cond.selects RX3 yX3_firstWrong yX3_firstWrong, Cond.code yX3_firstWrong cX3_firstWrong 8 (some .int), Cond.methodLink RX3 96 yX3_putBy, Cond.instanceMethod yX3_putBy, Cond.selects RX3 yX3_putBy yX3_putBy, Cond.code yX3_putBy cX3_putBy 6 (some .int), Cond.fieldLink RX3 82 "NineDrawersModel" "people" "I", Cond.fieldLink RX3 19 "NineDrawersModel" "drawerOf" "[I", Cond.fieldLink RX3 16 "NineDrawersModel" "kindOf" "[I", Cond.fieldLink RX3 22 "NineDrawersModel" "dayOf" "[I", Cond.methodLink RX3 88 yX3_has, Cond.static yX3_has, Cond.code yX3_has cX3_has 2 (some .boolean), Cond.methodLink RX3 92 yX3_puts, Cond.static yX3_puts, Cond.code yX3_puts cX3_puts 4 (some .boolean)]
def wsX3_few : List Cond := .code yX3_few cX3_few 4 (some .int) :: ((wsX3_few_r1 ++ wsX3_few_r2) ++ wsX30)
def wsX3_found : List Cond := .code yX3_found cX3_found 4 (some .int) :: ([.fieldLink RX3 85 "NineDrawersModel" "found" "I", .fieldLink RX3 25 "NineDrawersModel" "foundIn" "[I", .fieldLink RX3 28 "NineDrawersModel" "foundOn" "[I", .fieldLink RX3 31 "NineDrawersModel" "foundIs" "[I", .methodLink RX3 122 yX3_isDrawer, .instanceMethod yX3_isDrawer, .selects RX3 yX3_isDrawer yX3_isDrawer, .initialized RX3, .code yX3_isDrawer cX3_isDrawer 2 (some .boolean), .fieldLink RX3 75 "NineDrawersModel" "isChest" "Z", .methodLink RX3 56 yX3_within, .static yX3_within, .code yX3_within cX3_within 3 (some .boolean), .methodLink RX3 129 yX3_isDay, .static yX3_isDay, .code yX3_isDay cX3_isDay 1 (some .boolean)] ++ wsX30)
def wsX3_forget : List Cond := .code yX3_forget cX3_forget 2 (some .int) :: ([.fieldLink RX3 85 "NineDrawersModel" "found" "I"] ++ wsX30)
def wsX3_isFound : List Cond := .code yX3_isFound cX3_isFound 5 (some .boolean) :: ([.fieldLink RX3 85 "NineDrawersModel" "found" "I", .fieldLink RX3 25 "NineDrawersModel" "foundIn" "[I", .fieldLink RX3 28 "NineDrawersModel" "foundOn" "[I", .fieldLink RX3 31 "NineDrawersModel" "foundIs" "[I"] ++ wsX30)
def wsX3_anyBy_r1 : List Cond := [Cond.fieldLink RX3 13 "NineDrawersModel" "laidIn" "[I", Cond.methodLink RX3 154 yX3_isFound, Cond.instanceMethod yX3_isFound, Cond.selects RX3 yX3_isFound yX3_isFound, Cond.initialized RX3, Cond.code yX3_isFound cX3_isFound 5 (some .boolean), Cond.fieldLink RX3 85 "NineDrawersModel" "found" "I", Cond.fieldLink RX3 25 "NineDrawersModel" "foundIn" "[I", Cond.fieldLink RX3 28 "NineDrawersModel" "foundOn" "[I", Cond.fieldLink RX3 31 "NineDrawersModel" "foundIs" "[I", Cond.methodLink RX3 103 yX3_firstWrong, Cond.instanceMethod yX3_firstWrong, Cond.selects RX3 yX3_firstWrong yX3_firstWrong, Cond.code yX3_firstWrong cX3_firstWrong 8 (some .int), Cond.methodLink RX3 96 yX3_putBy, Cond.instanceMethod yX3_putBy, Cond.selects RX3 yX3_putBy yX3_putBy, Cond.code yX3_putBy cX3_putBy 6 (some .int), Cond.fieldLink RX3 82 "NineDrawersModel" "people" "I", Cond.fieldLink RX3 19 "NineDrawersModel" "drawerOf" "[I", Cond.fieldLink RX3 16 "NineDrawersModel" "kindOf" "[I", Cond.fieldLink RX3 22 "NineDrawersModel" "dayOf" "[I", Cond.methodLink RX3 88 yX3_has, Cond.static yX3_has]
def wsX3_anyBy_r2 : List Cond := [Cond.code yX3_has cX3_has 2 (some .boolean), Cond.methodLink RX3 92 yX3_puts, Cond.static yX3_puts, Cond.code yX3_puts cX3_puts 4 (some .boolean)]
def wsX3_anyBy : List Cond := .code yX3_anyBy cX3_anyBy 5 (some .boolean) :: ((wsX3_anyBy_r1 ++ wsX3_anyBy_r2) ++ wsX30)
def wsX3_delaysOf_r1 : List Cond := [Cond.methodLink RX3 157 yX3_anyBy, Cond.instanceMethod yX3_anyBy, Cond.selects RX3 yX3_anyBy yX3_anyBy, Cond.initialized RX3, Cond.code yX3_anyBy cX3_anyBy 5 (some .boolean), Cond.fieldLink RX3 13 "NineDrawersModel" "laidIn" "[I", Cond.methodLink RX3 154 yX3_isFound, Cond.instanceMethod yX3_isFound, Cond.selects RX3 yX3_isFound yX3_isFound, Cond.code yX3_isFound cX3_isFound 5 (some .boolean), Cond.fieldLink RX3 85 "NineDrawersModel" "found" "I", Cond.fieldLink RX3 25 "NineDrawersModel" "foundIn" "[I", Cond.fieldLink RX3 28 "NineDrawersModel" "foundOn" "[I", Cond.fieldLink RX3 31 "NineDrawersModel" "foundIs" "[I", Cond.methodLink RX3 103 yX3_firstWrong, Cond.instanceMethod yX3_firstWrong, Cond.selects RX3 yX3_firstWrong yX3_firstWrong, Cond.code yX3_firstWrong cX3_firstWrong 8 (some .int), Cond.methodLink RX3 96 yX3_putBy, Cond.instanceMethod yX3_putBy, Cond.selects RX3 yX3_putBy yX3_putBy, Cond.code yX3_putBy cX3_putBy 6 (some .int), Cond.fieldLink RX3 82 "NineDrawersModel" "people" "I", Cond.fieldLink RX3 19 "NineDrawersModel" "drawerOf" "[I"]
def wsX3_delaysOf_r2 : List Cond := [Cond.fieldLink RX3 16 "NineDrawersModel" "kindOf" "[I", Cond.fieldLink RX3 22 "NineDrawersModel" "dayOf" "[I", Cond.methodLink RX3 88 yX3_has, Cond.static yX3_has, Cond.code yX3_has cX3_has 2 (some .boolean), Cond.methodLink RX3 92 yX3_puts, Cond.static yX3_puts, Cond.code yX3_puts cX3_puts 4 (some .boolean)]
def wsX3_delaysOf : List Cond := .code yX3_delaysOf cX3_delaysOf 4 (some .int) :: ((wsX3_delaysOf_r1 ++ wsX3_delaysOf_r2) ++ wsX30)
def wsX3_delays_r1 : List Cond := [Cond.methodLink RX3 122 yX3_isDrawer, Cond.instanceMethod yX3_isDrawer, Cond.selects RX3 yX3_isDrawer yX3_isDrawer, Cond.initialized RX3, Cond.code yX3_isDrawer cX3_isDrawer 2 (some .boolean), Cond.fieldLink RX3 75 "NineDrawersModel" "isChest" "Z", Cond.methodLink RX3 56 yX3_within, Cond.static yX3_within, Cond.code yX3_within cX3_within 3 (some .boolean), Cond.methodLink RX3 160 yX3_delaysOf, Cond.instanceMethod yX3_delaysOf, Cond.selects RX3 yX3_delaysOf yX3_delaysOf, Cond.code yX3_delaysOf cX3_delaysOf 4 (some .int), Cond.methodLink RX3 157 yX3_anyBy, Cond.instanceMethod yX3_anyBy, Cond.selects RX3 yX3_anyBy yX3_anyBy, Cond.code yX3_anyBy cX3_anyBy 5 (some .boolean), Cond.fieldLink RX3 13 "NineDrawersModel" "laidIn" "[I", Cond.methodLink RX3 154 yX3_isFound, Cond.instanceMethod yX3_isFound, Cond.selects RX3 yX3_isFound yX3_isFound, Cond.code yX3_isFound cX3_isFound 5 (some .boolean), Cond.fieldLink RX3 85 "NineDrawersModel" "found" "I", Cond.fieldLink RX3 25 "NineDrawersModel" "foundIn" "[I"]
def wsX3_delays_r2 : List Cond := [Cond.fieldLink RX3 28 "NineDrawersModel" "foundOn" "[I", Cond.fieldLink RX3 31 "NineDrawersModel" "foundIs" "[I", Cond.methodLink RX3 103 yX3_firstWrong, Cond.instanceMethod yX3_firstWrong, Cond.selects RX3 yX3_firstWrong yX3_firstWrong, Cond.code yX3_firstWrong cX3_firstWrong 8 (some .int), Cond.methodLink RX3 96 yX3_putBy, Cond.instanceMethod yX3_putBy, Cond.selects RX3 yX3_putBy yX3_putBy, Cond.code yX3_putBy cX3_putBy 6 (some .int), Cond.fieldLink RX3 82 "NineDrawersModel" "people" "I", Cond.fieldLink RX3 19 "NineDrawersModel" "drawerOf" "[I", Cond.fieldLink RX3 16 "NineDrawersModel" "kindOf" "[I", Cond.fieldLink RX3 22 "NineDrawersModel" "dayOf" "[I", Cond.methodLink RX3 88 yX3_has, Cond.static yX3_has, Cond.code yX3_has cX3_has 2 (some .boolean), Cond.methodLink RX3 92 yX3_puts, Cond.static yX3_puts, Cond.code yX3_puts cX3_puts 4 (some .boolean)]
def wsX3_delays : List Cond := .code yX3_delays cX3_delays 2 (some .int) :: ((wsX3_delays_r1 ++ wsX3_delays_r2) ++ wsX30)
def wsX3_whoNow_r1 : List Cond := [Cond.fieldLink RX3 16 "NineDrawersModel" "kindOf" "[I", Cond.fieldLink RX3 22 "NineDrawersModel" "dayOf" "[I", Cond.fieldLink RX3 19 "NineDrawersModel" "drawerOf" "[I", Cond.methodLink RX3 100 yX3_aheadOf, Cond.instanceMethod yX3_aheadOf, Cond.selects RX3 yX3_aheadOf yX3_aheadOf, Cond.initialized RX3, Cond.code yX3_aheadOf cX3_aheadOf 2 (some .int), Cond.fieldLink RX3 72 "NineDrawersModel" "facing" "I", Cond.fieldLink RX3 7 "NineDrawersModel" "delayOf" "[I", Cond.methodLink RX3 157 yX3_anyBy, Cond.instanceMethod yX3_anyBy, Cond.selects RX3 yX3_anyBy yX3_anyBy, Cond.code yX3_anyBy cX3_anyBy 5 (some .boolean), Cond.fieldLink RX3 13 "NineDrawersModel" "laidIn" "[I", Cond.methodLink RX3 154 yX3_isFound, Cond.instanceMethod yX3_isFound, Cond.selects RX3 yX3_isFound yX3_isFound, Cond.code yX3_isFound cX3_isFound 5 (some .boolean), Cond.fieldLink RX3 85 "NineDrawersModel" "found" "I", Cond.fieldLink RX3 25 "NineDrawersModel" "foundIn" "[I", Cond.fieldLink RX3 28 "NineDrawersModel" "foundOn" "[I", Cond.fieldLink RX3 31 "NineDrawersModel" "foundIs" "[I", Cond.methodLink RX3 103 yX3_firstWrong]
def wsX3_whoNow_r2 : List Cond := [Cond.instanceMethod yX3_firstWrong, Cond.selects RX3 yX3_firstWrong yX3_firstWrong, Cond.code yX3_firstWrong cX3_firstWrong 8 (some .int), Cond.methodLink RX3 96 yX3_putBy, Cond.instanceMethod yX3_putBy, Cond.selects RX3 yX3_putBy yX3_putBy, Cond.code yX3_putBy cX3_putBy 6 (some .int), Cond.fieldLink RX3 82 "NineDrawersModel" "people" "I", Cond.methodLink RX3 88 yX3_has, Cond.static yX3_has, Cond.code yX3_has cX3_has 2 (some .boolean), Cond.methodLink RX3 92 yX3_puts, Cond.static yX3_puts, Cond.code yX3_puts cX3_puts 4 (some .boolean)]
def wsX3_whoNow : List Cond := .code yX3_whoNow cX3_whoNow 9 (some .int) :: ((wsX3_whoNow_r1 ++ wsX3_whoNow_r2) ++ wsX30)
def wsX3_who_r1 : List Cond := [Cond.methodLink RX3 132 yX3_isPerson, Cond.instanceMethod yX3_isPerson, Cond.selects RX3 yX3_isPerson yX3_isPerson, Cond.initialized RX3, Cond.code yX3_isPerson cX3_isPerson 2 (some .boolean), Cond.fieldLink RX3 82 "NineDrawersModel" "people" "I", Cond.methodLink RX3 56 yX3_within, Cond.static yX3_within, Cond.code yX3_within cX3_within 3 (some .boolean), Cond.methodLink RX3 163 yX3_whoNow, Cond.instanceMethod yX3_whoNow, Cond.selects RX3 yX3_whoNow yX3_whoNow, Cond.code yX3_whoNow cX3_whoNow 9 (some .int), Cond.fieldLink RX3 16 "NineDrawersModel" "kindOf" "[I", Cond.fieldLink RX3 22 "NineDrawersModel" "dayOf" "[I", Cond.fieldLink RX3 19 "NineDrawersModel" "drawerOf" "[I", Cond.methodLink RX3 100 yX3_aheadOf, Cond.instanceMethod yX3_aheadOf, Cond.selects RX3 yX3_aheadOf yX3_aheadOf, Cond.code yX3_aheadOf cX3_aheadOf 2 (some .int), Cond.fieldLink RX3 72 "NineDrawersModel" "facing" "I", Cond.fieldLink RX3 7 "NineDrawersModel" "delayOf" "[I", Cond.methodLink RX3 157 yX3_anyBy, Cond.instanceMethod yX3_anyBy]
def wsX3_who_r2 : List Cond := [Cond.selects RX3 yX3_anyBy yX3_anyBy, Cond.code yX3_anyBy cX3_anyBy 5 (some .boolean), Cond.fieldLink RX3 13 "NineDrawersModel" "laidIn" "[I", Cond.methodLink RX3 154 yX3_isFound, Cond.instanceMethod yX3_isFound, Cond.selects RX3 yX3_isFound yX3_isFound, Cond.code yX3_isFound cX3_isFound 5 (some .boolean), Cond.fieldLink RX3 85 "NineDrawersModel" "found" "I", Cond.fieldLink RX3 25 "NineDrawersModel" "foundIn" "[I", Cond.fieldLink RX3 28 "NineDrawersModel" "foundOn" "[I", Cond.fieldLink RX3 31 "NineDrawersModel" "foundIs" "[I", Cond.methodLink RX3 103 yX3_firstWrong, Cond.instanceMethod yX3_firstWrong, Cond.selects RX3 yX3_firstWrong yX3_firstWrong, Cond.code yX3_firstWrong cX3_firstWrong 8 (some .int), Cond.methodLink RX3 96 yX3_putBy, Cond.instanceMethod yX3_putBy, Cond.selects RX3 yX3_putBy yX3_putBy, Cond.code yX3_putBy cX3_putBy 6 (some .int), Cond.methodLink RX3 88 yX3_has, Cond.static yX3_has, Cond.code yX3_has cX3_has 2 (some .boolean), Cond.methodLink RX3 92 yX3_puts, Cond.static yX3_puts]
def wsX3_who_r3 : List Cond := [Cond.code yX3_puts cX3_puts 4 (some .boolean)]
def wsX3_who : List Cond := .code yX3_who cX3_who 3 (some .int) :: ((wsX3_who_r1 ++ (wsX3_who_r2 ++ wsX3_who_r3)) ++ wsX30)
def wsX3_draw : List Cond := .code yX3_draw cX3_draw 2 (some .int) :: ([.constantLong RX3 166 (1103515245), .fieldLink RX3 168 "NineDrawersModel" "seedNow" "J", .constantLong RX3 172 (12345), .constantLong RX3 174 (2147483647), .constantLong RX3 176 (65536)] ++ wsX30)
def wsX3_anyLaid_r1 : List Cond := [Cond.methodLink RX3 100 yX3_aheadOf, Cond.instanceMethod yX3_aheadOf, Cond.selects RX3 yX3_aheadOf yX3_aheadOf, Cond.initialized RX3, Cond.code yX3_aheadOf cX3_aheadOf 2 (some .int), Cond.fieldLink RX3 72 "NineDrawersModel" "facing" "I", Cond.fieldLink RX3 7 "NineDrawersModel" "delayOf" "[I", Cond.methodLink RX3 103 yX3_firstWrong, Cond.instanceMethod yX3_firstWrong, Cond.selects RX3 yX3_firstWrong yX3_firstWrong, Cond.code yX3_firstWrong cX3_firstWrong 8 (some .int), Cond.methodLink RX3 96 yX3_putBy, Cond.instanceMethod yX3_putBy, Cond.selects RX3 yX3_putBy yX3_putBy, Cond.code yX3_putBy cX3_putBy 6 (some .int), Cond.fieldLink RX3 82 "NineDrawersModel" "people" "I", Cond.fieldLink RX3 19 "NineDrawersModel" "drawerOf" "[I", Cond.fieldLink RX3 16 "NineDrawersModel" "kindOf" "[I", Cond.fieldLink RX3 22 "NineDrawersModel" "dayOf" "[I", Cond.methodLink RX3 88 yX3_has, Cond.static yX3_has, Cond.code yX3_has cX3_has 2 (some .boolean), Cond.methodLink RX3 92 yX3_puts, Cond.static yX3_puts]
def wsX3_anyLaid_r2 : List Cond := [Cond.code yX3_puts cX3_puts 4 (some .boolean)]
def wsX3_anyLaid : List Cond := .code yX3_anyLaid cX3_anyLaid 5 (some .boolean) :: ((wsX3_anyLaid_r1 ++ wsX3_anyLaid_r2) ++ wsX30)
def wsX3_weeksNow_r1 : List Cond := [Cond.fieldLink RX3 168 "NineDrawersModel" "seedNow" "J", Cond.methodLink RX3 178 yX3_draw, Cond.instanceMethod yX3_draw, Cond.selects RX3 yX3_draw yX3_draw, Cond.initialized RX3, Cond.code yX3_draw cX3_draw 2 (some .int), Cond.constantLong RX3 166 (1103515245), Cond.constantLong RX3 172 (12345), Cond.constantLong RX3 174 (2147483647), Cond.constantLong RX3 176 (65536), Cond.methodLink RX3 181 yX3_anyLaid, Cond.instanceMethod yX3_anyLaid, Cond.selects RX3 yX3_anyLaid yX3_anyLaid, Cond.code yX3_anyLaid cX3_anyLaid 5 (some .boolean), Cond.methodLink RX3 100 yX3_aheadOf, Cond.instanceMethod yX3_aheadOf, Cond.selects RX3 yX3_aheadOf yX3_aheadOf, Cond.code yX3_aheadOf cX3_aheadOf 2 (some .int), Cond.fieldLink RX3 72 "NineDrawersModel" "facing" "I", Cond.fieldLink RX3 7 "NineDrawersModel" "delayOf" "[I", Cond.methodLink RX3 103 yX3_firstWrong, Cond.instanceMethod yX3_firstWrong, Cond.selects RX3 yX3_firstWrong yX3_firstWrong, Cond.code yX3_firstWrong cX3_firstWrong 8 (some .int)]
def wsX3_weeksNow_r2 : List Cond := [Cond.methodLink RX3 96 yX3_putBy, Cond.instanceMethod yX3_putBy, Cond.selects RX3 yX3_putBy yX3_putBy, Cond.code yX3_putBy cX3_putBy 6 (some .int), Cond.fieldLink RX3 82 "NineDrawersModel" "people" "I", Cond.fieldLink RX3 19 "NineDrawersModel" "drawerOf" "[I", Cond.fieldLink RX3 16 "NineDrawersModel" "kindOf" "[I", Cond.fieldLink RX3 22 "NineDrawersModel" "dayOf" "[I", Cond.methodLink RX3 88 yX3_has, Cond.static yX3_has, Cond.code yX3_has cX3_has 2 (some .boolean), Cond.methodLink RX3 92 yX3_puts, Cond.static yX3_puts, Cond.code yX3_puts cX3_puts 4 (some .boolean)]
def wsX3_weeksNow : List Cond := .code yX3_weeksNow cX3_weeksNow 8 (some .int) :: ((wsX3_weeksNow_r1 ++ wsX3_weeksNow_r2) ++ wsX30)
def wsX3_weeks_r1 : List Cond := [Cond.fieldLink RX3 75 "NineDrawersModel" "isChest" "Z", Cond.methodLink RX3 56 yX3_within, Cond.static yX3_within, Cond.initialized RX3, Cond.code yX3_within cX3_within 3 (some .boolean), Cond.methodLink RX3 184 yX3_weeksNow, Cond.instanceMethod yX3_weeksNow, Cond.selects RX3 yX3_weeksNow yX3_weeksNow, Cond.code yX3_weeksNow cX3_weeksNow 8 (some .int), Cond.fieldLink RX3 168 "NineDrawersModel" "seedNow" "J", Cond.methodLink RX3 178 yX3_draw, Cond.instanceMethod yX3_draw, Cond.selects RX3 yX3_draw yX3_draw, Cond.code yX3_draw cX3_draw 2 (some .int), Cond.constantLong RX3 166 (1103515245), Cond.constantLong RX3 172 (12345), Cond.constantLong RX3 174 (2147483647), Cond.constantLong RX3 176 (65536), Cond.methodLink RX3 181 yX3_anyLaid, Cond.instanceMethod yX3_anyLaid, Cond.selects RX3 yX3_anyLaid yX3_anyLaid, Cond.code yX3_anyLaid cX3_anyLaid 5 (some .boolean), Cond.methodLink RX3 100 yX3_aheadOf, Cond.instanceMethod yX3_aheadOf]
def wsX3_weeks_r2 : List Cond := [Cond.selects RX3 yX3_aheadOf yX3_aheadOf, Cond.code yX3_aheadOf cX3_aheadOf 2 (some .int), Cond.fieldLink RX3 72 "NineDrawersModel" "facing" "I", Cond.fieldLink RX3 7 "NineDrawersModel" "delayOf" "[I", Cond.methodLink RX3 103 yX3_firstWrong, Cond.instanceMethod yX3_firstWrong, Cond.selects RX3 yX3_firstWrong yX3_firstWrong, Cond.code yX3_firstWrong cX3_firstWrong 8 (some .int), Cond.methodLink RX3 96 yX3_putBy, Cond.instanceMethod yX3_putBy, Cond.selects RX3 yX3_putBy yX3_putBy, Cond.code yX3_putBy cX3_putBy 6 (some .int), Cond.fieldLink RX3 82 "NineDrawersModel" "people" "I", Cond.fieldLink RX3 19 "NineDrawersModel" "drawerOf" "[I", Cond.fieldLink RX3 16 "NineDrawersModel" "kindOf" "[I", Cond.fieldLink RX3 22 "NineDrawersModel" "dayOf" "[I", Cond.methodLink RX3 88 yX3_has, Cond.static yX3_has, Cond.code yX3_has cX3_has 2 (some .boolean), Cond.methodLink RX3 92 yX3_puts, Cond.static yX3_puts, Cond.code yX3_puts cX3_puts 4 (some .boolean)]
def wsX3_weeks : List Cond := .code yX3_weeks cX3_weeks 4 (some .int) :: ((wsX3_weeks_r1 ++ wsX3_weeks_r2) ++ wsX30)
def wsX3_image : List Cond := .code yX3_image cX3_image 2 (some .int) :: ([.fieldLink RX3 75 "NineDrawersModel" "isChest" "Z", .fieldLink RX3 187 "NineDrawersModel" "isKept" "Z", .fieldLink RX3 79 "NineDrawersModel" "chests" "I", .fieldLink RX3 190 "NineDrawersModel" "keptChest" "I", .fieldLink RX3 72 "NineDrawersModel" "facing" "I", .fieldLink RX3 193 "NineDrawersModel" "keptFacing" "I", .fieldLink RX3 82 "NineDrawersModel" "people" "I", .fieldLink RX3 196 "NineDrawersModel" "keptPeople" "I", .fieldLink RX3 85 "NineDrawersModel" "found" "I", .fieldLink RX3 199 "NineDrawersModel" "keptFound" "I", .fieldLink RX3 38 "NineDrawersModel" "keptLaid" "[I", .fieldLink RX3 13 "NineDrawersModel" "laidIn" "[I", .fieldLink RX3 41 "NineDrawersModel" "keptDrawer" "[I", .fieldLink RX3 19 "NineDrawersModel" "drawerOf" "[I", .fieldLink RX3 44 "NineDrawersModel" "keptDay" "[I", .fieldLink RX3 22 "NineDrawersModel" "dayOf" "[I", .fieldLink RX3 47 "NineDrawersModel" "keptIn" "[I", .fieldLink RX3 25 "NineDrawersModel" "foundIn" "[I", .fieldLink RX3 50 "NineDrawersModel" "keptOn" "[I", .fieldLink RX3 28 "NineDrawersModel" "foundOn" "[I", .fieldLink RX3 53 "NineDrawersModel" "keptIs" "[I", .fieldLink RX3 31 "NineDrawersModel" "foundIs" "[I"] ++ wsX30)
def wsX3_restore : List Cond := .code yX3_restore cX3_restore 2 (some .int) :: ([.fieldLink RX3 187 "NineDrawersModel" "isKept" "Z", .fieldLink RX3 190 "NineDrawersModel" "keptChest" "I", .fieldLink RX3 79 "NineDrawersModel" "chests" "I", .fieldLink RX3 193 "NineDrawersModel" "keptFacing" "I", .fieldLink RX3 72 "NineDrawersModel" "facing" "I", .fieldLink RX3 196 "NineDrawersModel" "keptPeople" "I", .fieldLink RX3 82 "NineDrawersModel" "people" "I", .fieldLink RX3 199 "NineDrawersModel" "keptFound" "I", .fieldLink RX3 85 "NineDrawersModel" "found" "I", .fieldLink RX3 13 "NineDrawersModel" "laidIn" "[I", .fieldLink RX3 38 "NineDrawersModel" "keptLaid" "[I", .fieldLink RX3 19 "NineDrawersModel" "drawerOf" "[I", .fieldLink RX3 41 "NineDrawersModel" "keptDrawer" "[I", .fieldLink RX3 22 "NineDrawersModel" "dayOf" "[I", .fieldLink RX3 44 "NineDrawersModel" "keptDay" "[I", .fieldLink RX3 25 "NineDrawersModel" "foundIn" "[I", .fieldLink RX3 47 "NineDrawersModel" "keptIn" "[I", .fieldLink RX3 28 "NineDrawersModel" "foundOn" "[I", .fieldLink RX3 50 "NineDrawersModel" "keptOn" "[I", .fieldLink RX3 31 "NineDrawersModel" "foundIs" "[I", .fieldLink RX3 53 "NineDrawersModel" "keptIs" "[I"] ++ wsX30)
def wsX3_agreeingDrawers_r1 : List Cond := [Cond.fieldLink RX3 75 "NineDrawersModel" "isChest" "Z", Cond.fieldLink RX3 13 "NineDrawersModel" "laidIn" "[I", Cond.methodLink RX3 181 yX3_anyLaid, Cond.instanceMethod yX3_anyLaid, Cond.selects RX3 yX3_anyLaid yX3_anyLaid, Cond.initialized RX3, Cond.code yX3_anyLaid cX3_anyLaid 5 (some .boolean), Cond.methodLink RX3 100 yX3_aheadOf, Cond.instanceMethod yX3_aheadOf, Cond.selects RX3 yX3_aheadOf yX3_aheadOf, Cond.code yX3_aheadOf cX3_aheadOf 2 (some .int), Cond.fieldLink RX3 72 "NineDrawersModel" "facing" "I", Cond.fieldLink RX3 7 "NineDrawersModel" "delayOf" "[I", Cond.methodLink RX3 103 yX3_firstWrong, Cond.instanceMethod yX3_firstWrong, Cond.selects RX3 yX3_firstWrong yX3_firstWrong, Cond.code yX3_firstWrong cX3_firstWrong 8 (some .int), Cond.methodLink RX3 96 yX3_putBy, Cond.instanceMethod yX3_putBy, Cond.selects RX3 yX3_putBy yX3_putBy, Cond.code yX3_putBy cX3_putBy 6 (some .int), Cond.fieldLink RX3 82 "NineDrawersModel" "people" "I", Cond.fieldLink RX3 19 "NineDrawersModel" "drawerOf" "[I", Cond.fieldLink RX3 16 "NineDrawersModel" "kindOf" "[I"]
def wsX3_agreeingDrawers_r2 : List Cond := [Cond.fieldLink RX3 22 "NineDrawersModel" "dayOf" "[I", Cond.methodLink RX3 88 yX3_has, Cond.static yX3_has, Cond.code yX3_has cX3_has 2 (some .boolean), Cond.methodLink RX3 92 yX3_puts, Cond.static yX3_puts, Cond.code yX3_puts cX3_puts 4 (some .boolean)]
def wsX3_agreeingDrawers : List Cond := .code yX3_agreeingDrawers cX3_agreeingDrawers 3 (some .int) :: ((wsX3_agreeingDrawers_r1 ++ wsX3_agreeingDrawers_r2) ++ wsX30)
def wsX3_laidAll : List Cond := .code yX3_laidAll cX3_laidAll 3 (some .int) :: ([.fieldLink RX3 13 "NineDrawersModel" "laidIn" "[I", .methodLink RX3 141 yX3_size, .static yX3_size, .initialized RX3, .code yX3_size cX3_size 3 (some .int)] ++ wsX30)
def wsX3_howMany_r1 : List Cond := [Cond.fieldLink RX3 72 "NineDrawersModel" "facing" "I", Cond.fieldLink RX3 82 "NineDrawersModel" "people" "I", Cond.fieldLink RX3 85 "NineDrawersModel" "found" "I", Cond.fieldLink RX3 60 "NineDrawersModel" "pageLength" "I", Cond.fieldLink RX3 79 "NineDrawersModel" "chests" "I", Cond.fieldLink RX3 147 "NineDrawersModel" "asks" "I", Cond.methodLink RX3 202 yX3_agreeingDrawers, Cond.instanceMethod yX3_agreeingDrawers, Cond.selects RX3 yX3_agreeingDrawers yX3_agreeingDrawers, Cond.initialized RX3, Cond.code yX3_agreeingDrawers cX3_agreeingDrawers 3 (some .int), Cond.fieldLink RX3 75 "NineDrawersModel" "isChest" "Z", Cond.fieldLink RX3 13 "NineDrawersModel" "laidIn" "[I", Cond.methodLink RX3 181 yX3_anyLaid, Cond.instanceMethod yX3_anyLaid, Cond.selects RX3 yX3_anyLaid yX3_anyLaid, Cond.code yX3_anyLaid cX3_anyLaid 5 (some .boolean), Cond.methodLink RX3 100 yX3_aheadOf, Cond.instanceMethod yX3_aheadOf, Cond.selects RX3 yX3_aheadOf yX3_aheadOf, Cond.code yX3_aheadOf cX3_aheadOf 2 (some .int), Cond.fieldLink RX3 7 "NineDrawersModel" "delayOf" "[I", Cond.methodLink RX3 103 yX3_firstWrong, Cond.instanceMethod yX3_firstWrong]
def wsX3_howMany_r2 : List Cond := [Cond.selects RX3 yX3_firstWrong yX3_firstWrong, Cond.code yX3_firstWrong cX3_firstWrong 8 (some .int), Cond.methodLink RX3 96 yX3_putBy, Cond.instanceMethod yX3_putBy, Cond.selects RX3 yX3_putBy yX3_putBy, Cond.code yX3_putBy cX3_putBy 6 (some .int), Cond.fieldLink RX3 19 "NineDrawersModel" "drawerOf" "[I", Cond.fieldLink RX3 16 "NineDrawersModel" "kindOf" "[I", Cond.fieldLink RX3 22 "NineDrawersModel" "dayOf" "[I", Cond.methodLink RX3 88 yX3_has, Cond.static yX3_has, Cond.code yX3_has cX3_has 2 (some .boolean), Cond.methodLink RX3 92 yX3_puts, Cond.static yX3_puts, Cond.code yX3_puts cX3_puts 4 (some .boolean), Cond.methodLink RX3 205 yX3_laidAll, Cond.instanceMethod yX3_laidAll, Cond.selects RX3 yX3_laidAll yX3_laidAll, Cond.code yX3_laidAll cX3_laidAll 3 (some .int), Cond.methodLink RX3 141 yX3_size, Cond.static yX3_size, Cond.code yX3_size cX3_size 3 (some .int)]
def wsX3_howMany : List Cond := .code yX3_howMany cX3_howMany 2 (some .int) :: ((wsX3_howMany_r1 ++ wsX3_howMany_r2) ++ wsX30)
def wsX3_count_r1 : List Cond := [Cond.methodLink RX3 208 yX3_howMany, Cond.instanceMethod yX3_howMany, Cond.selects RX3 yX3_howMany yX3_howMany, Cond.initialized RX3, Cond.code yX3_howMany cX3_howMany 2 (some .int), Cond.fieldLink RX3 72 "NineDrawersModel" "facing" "I", Cond.fieldLink RX3 82 "NineDrawersModel" "people" "I", Cond.fieldLink RX3 85 "NineDrawersModel" "found" "I", Cond.fieldLink RX3 60 "NineDrawersModel" "pageLength" "I", Cond.fieldLink RX3 79 "NineDrawersModel" "chests" "I", Cond.fieldLink RX3 147 "NineDrawersModel" "asks" "I", Cond.methodLink RX3 202 yX3_agreeingDrawers, Cond.instanceMethod yX3_agreeingDrawers, Cond.selects RX3 yX3_agreeingDrawers yX3_agreeingDrawers, Cond.code yX3_agreeingDrawers cX3_agreeingDrawers 3 (some .int), Cond.fieldLink RX3 75 "NineDrawersModel" "isChest" "Z", Cond.fieldLink RX3 13 "NineDrawersModel" "laidIn" "[I", Cond.methodLink RX3 181 yX3_anyLaid, Cond.instanceMethod yX3_anyLaid, Cond.selects RX3 yX3_anyLaid yX3_anyLaid, Cond.code yX3_anyLaid cX3_anyLaid 5 (some .boolean), Cond.methodLink RX3 100 yX3_aheadOf, Cond.instanceMethod yX3_aheadOf, Cond.selects RX3 yX3_aheadOf yX3_aheadOf]
def wsX3_count_r2 : List Cond := [Cond.code yX3_aheadOf cX3_aheadOf 2 (some .int), Cond.fieldLink RX3 7 "NineDrawersModel" "delayOf" "[I", Cond.methodLink RX3 103 yX3_firstWrong, Cond.instanceMethod yX3_firstWrong, Cond.selects RX3 yX3_firstWrong yX3_firstWrong, Cond.code yX3_firstWrong cX3_firstWrong 8 (some .int), Cond.methodLink RX3 96 yX3_putBy, Cond.instanceMethod yX3_putBy, Cond.selects RX3 yX3_putBy yX3_putBy, Cond.code yX3_putBy cX3_putBy 6 (some .int), Cond.fieldLink RX3 19 "NineDrawersModel" "drawerOf" "[I", Cond.fieldLink RX3 16 "NineDrawersModel" "kindOf" "[I", Cond.fieldLink RX3 22 "NineDrawersModel" "dayOf" "[I", Cond.methodLink RX3 88 yX3_has, Cond.static yX3_has, Cond.code yX3_has cX3_has 2 (some .boolean), Cond.methodLink RX3 92 yX3_puts, Cond.static yX3_puts, Cond.code yX3_puts cX3_puts 4 (some .boolean), Cond.methodLink RX3 205 yX3_laidAll, Cond.instanceMethod yX3_laidAll, Cond.selects RX3 yX3_laidAll yX3_laidAll, Cond.code yX3_laidAll cX3_laidAll 3 (some .int), Cond.methodLink RX3 141 yX3_size]
def wsX3_count_r3 : List Cond := [Cond.static yX3_size, Cond.code yX3_size cX3_size 3 (some .int)]
def wsX3_count : List Cond := .code yX3_count cX3_count 2 (some .int) :: ((wsX3_count_r1 ++ (wsX3_count_r2 ++ wsX3_count_r3)) ++ wsX30)
def wsX3_mix : List Cond := .code yX3_mix cX3_mix 3 none :: ([.constantLong RX3 211 (31), .fieldLink RX3 213 "NineDrawersModel" "h" "J"] ++ wsX30)
def wsX3_mixDrawer_r1 : List Cond := [Cond.methodLink RX3 126 yX3_drawerNow, Cond.instanceMethod yX3_drawerNow, Cond.selects RX3 yX3_drawerNow yX3_drawerNow, Cond.initialized RX3, Cond.code yX3_drawerNow cX3_drawerNow 3 (some .int), Cond.fieldLink RX3 7 "NineDrawersModel" "delayOf" "[I", Cond.fieldLink RX3 13 "NineDrawersModel" "laidIn" "[I", Cond.methodLink RX3 100 yX3_aheadOf, Cond.instanceMethod yX3_aheadOf, Cond.selects RX3 yX3_aheadOf yX3_aheadOf, Cond.code yX3_aheadOf cX3_aheadOf 2 (some .int), Cond.fieldLink RX3 72 "NineDrawersModel" "facing" "I", Cond.methodLink RX3 110 yX3_peopleOf, Cond.instanceMethod yX3_peopleOf, Cond.selects RX3 yX3_peopleOf yX3_peopleOf, Cond.code yX3_peopleOf cX3_peopleOf 4 (some .int), Cond.fieldLink RX3 82 "NineDrawersModel" "people" "I", Cond.fieldLink RX3 19 "NineDrawersModel" "drawerOf" "[I", Cond.methodLink RX3 113 yX3_agreeing, Cond.instanceMethod yX3_agreeing, Cond.selects RX3 yX3_agreeing yX3_agreeing, Cond.code yX3_agreeing cX3_agreeing 4 (some .int), Cond.methodLink RX3 107 yX3_isSo, Cond.instanceMethod yX3_isSo]
def wsX3_mixDrawer_r2 : List Cond := [Cond.selects RX3 yX3_isSo yX3_isSo, Cond.code yX3_isSo cX3_isSo 3 (some .boolean), Cond.methodLink RX3 103 yX3_firstWrong, Cond.instanceMethod yX3_firstWrong, Cond.selects RX3 yX3_firstWrong yX3_firstWrong, Cond.code yX3_firstWrong cX3_firstWrong 8 (some .int), Cond.methodLink RX3 96 yX3_putBy, Cond.instanceMethod yX3_putBy, Cond.selects RX3 yX3_putBy yX3_putBy, Cond.code yX3_putBy cX3_putBy 6 (some .int), Cond.fieldLink RX3 16 "NineDrawersModel" "kindOf" "[I", Cond.fieldLink RX3 22 "NineDrawersModel" "dayOf" "[I", Cond.methodLink RX3 88 yX3_has, Cond.static yX3_has, Cond.code yX3_has cX3_has 2 (some .boolean), Cond.methodLink RX3 92 yX3_puts, Cond.static yX3_puts, Cond.code yX3_puts cX3_puts 4 (some .boolean), Cond.methodLink RX3 116 yX3_cannotOf, Cond.instanceMethod yX3_cannotOf, Cond.selects RX3 yX3_cannotOf yX3_cannotOf, Cond.code yX3_cannotOf cX3_cannotOf 5 (some .int), Cond.methodLink RX3 119 yX3_leastOf, Cond.instanceMethod yX3_leastOf]
def wsX3_mixDrawer_r3 : List Cond := [Cond.selects RX3 yX3_leastOf yX3_leastOf, Cond.code yX3_leastOf cX3_leastOf 3 (some .int), Cond.methodLink RX3 216 yX3_mix, Cond.instanceMethod yX3_mix, Cond.selects RX3 yX3_mix yX3_mix, Cond.code yX3_mix cX3_mix 3 none, Cond.constantLong RX3 211 (31), Cond.fieldLink RX3 213 "NineDrawersModel" "h" "J", Cond.methodLink RX3 138 yX3_sureNow, Cond.instanceMethod yX3_sureNow, Cond.selects RX3 yX3_sureNow yX3_sureNow, Cond.code yX3_sureNow cX3_sureNow 5 (some .int), Cond.methodLink RX3 160 yX3_delaysOf, Cond.instanceMethod yX3_delaysOf, Cond.selects RX3 yX3_delaysOf yX3_delaysOf, Cond.code yX3_delaysOf cX3_delaysOf 4 (some .int), Cond.methodLink RX3 157 yX3_anyBy, Cond.instanceMethod yX3_anyBy, Cond.selects RX3 yX3_anyBy yX3_anyBy, Cond.code yX3_anyBy cX3_anyBy 5 (some .boolean), Cond.methodLink RX3 154 yX3_isFound, Cond.instanceMethod yX3_isFound, Cond.selects RX3 yX3_isFound yX3_isFound, Cond.code yX3_isFound cX3_isFound 5 (some .boolean)]
def wsX3_mixDrawer_r4 : List Cond := [Cond.fieldLink RX3 85 "NineDrawersModel" "found" "I", Cond.fieldLink RX3 25 "NineDrawersModel" "foundIn" "[I", Cond.fieldLink RX3 28 "NineDrawersModel" "foundOn" "[I", Cond.fieldLink RX3 31 "NineDrawersModel" "foundIs" "[I"]
def wsX3_mixDrawer : List Cond := .code yX3_mixDrawer cX3_mixDrawer 3 none :: ((wsX3_mixDrawer_r1 ++ (wsX3_mixDrawer_r2 ++ (wsX3_mixDrawer_r3 ++ wsX3_mixDrawer_r4))) ++ wsX30)
def wsX3_digest_r1 : List Cond := [Cond.constantLong RX3 220 (853), Cond.fieldLink RX3 213 "NineDrawersModel" "h" "J", Cond.fieldLink RX3 75 "NineDrawersModel" "isChest" "Z", Cond.fieldLink RX3 82 "NineDrawersModel" "people" "I", Cond.fieldLink RX3 60 "NineDrawersModel" "pageLength" "I", Cond.fieldLink RX3 34 "NineDrawersModel" "page" "[B", Cond.methodLink RX3 222 yX3_mixDrawer, Cond.instanceMethod yX3_mixDrawer, Cond.selects RX3 yX3_mixDrawer yX3_mixDrawer, Cond.initialized RX3, Cond.code yX3_mixDrawer cX3_mixDrawer 3 none, Cond.methodLink RX3 126 yX3_drawerNow, Cond.instanceMethod yX3_drawerNow, Cond.selects RX3 yX3_drawerNow yX3_drawerNow, Cond.code yX3_drawerNow cX3_drawerNow 3 (some .int), Cond.fieldLink RX3 7 "NineDrawersModel" "delayOf" "[I", Cond.fieldLink RX3 13 "NineDrawersModel" "laidIn" "[I", Cond.methodLink RX3 100 yX3_aheadOf, Cond.instanceMethod yX3_aheadOf, Cond.selects RX3 yX3_aheadOf yX3_aheadOf, Cond.code yX3_aheadOf cX3_aheadOf 2 (some .int), Cond.fieldLink RX3 72 "NineDrawersModel" "facing" "I", Cond.methodLink RX3 110 yX3_peopleOf, Cond.instanceMethod yX3_peopleOf]
def wsX3_digest_r2 : List Cond := [Cond.selects RX3 yX3_peopleOf yX3_peopleOf, Cond.code yX3_peopleOf cX3_peopleOf 4 (some .int), Cond.fieldLink RX3 19 "NineDrawersModel" "drawerOf" "[I", Cond.methodLink RX3 113 yX3_agreeing, Cond.instanceMethod yX3_agreeing, Cond.selects RX3 yX3_agreeing yX3_agreeing, Cond.code yX3_agreeing cX3_agreeing 4 (some .int), Cond.methodLink RX3 107 yX3_isSo, Cond.instanceMethod yX3_isSo, Cond.selects RX3 yX3_isSo yX3_isSo, Cond.code yX3_isSo cX3_isSo 3 (some .boolean), Cond.methodLink RX3 103 yX3_firstWrong, Cond.instanceMethod yX3_firstWrong, Cond.selects RX3 yX3_firstWrong yX3_firstWrong, Cond.code yX3_firstWrong cX3_firstWrong 8 (some .int), Cond.methodLink RX3 96 yX3_putBy, Cond.instanceMethod yX3_putBy, Cond.selects RX3 yX3_putBy yX3_putBy, Cond.code yX3_putBy cX3_putBy 6 (some .int), Cond.fieldLink RX3 16 "NineDrawersModel" "kindOf" "[I", Cond.fieldLink RX3 22 "NineDrawersModel" "dayOf" "[I", Cond.methodLink RX3 88 yX3_has, Cond.static yX3_has, Cond.code yX3_has cX3_has 2 (some .boolean)]
def wsX3_digest_r3 : List Cond := [Cond.methodLink RX3 92 yX3_puts, Cond.static yX3_puts, Cond.code yX3_puts cX3_puts 4 (some .boolean), Cond.methodLink RX3 116 yX3_cannotOf, Cond.instanceMethod yX3_cannotOf, Cond.selects RX3 yX3_cannotOf yX3_cannotOf, Cond.code yX3_cannotOf cX3_cannotOf 5 (some .int), Cond.methodLink RX3 119 yX3_leastOf, Cond.instanceMethod yX3_leastOf, Cond.selects RX3 yX3_leastOf yX3_leastOf, Cond.code yX3_leastOf cX3_leastOf 3 (some .int), Cond.methodLink RX3 216 yX3_mix, Cond.instanceMethod yX3_mix, Cond.selects RX3 yX3_mix yX3_mix, Cond.code yX3_mix cX3_mix 3 none, Cond.constantLong RX3 211 (31), Cond.methodLink RX3 138 yX3_sureNow, Cond.instanceMethod yX3_sureNow, Cond.selects RX3 yX3_sureNow yX3_sureNow, Cond.code yX3_sureNow cX3_sureNow 5 (some .int), Cond.methodLink RX3 160 yX3_delaysOf, Cond.instanceMethod yX3_delaysOf, Cond.selects RX3 yX3_delaysOf yX3_delaysOf, Cond.code yX3_delaysOf cX3_delaysOf 4 (some .int)]
def wsX3_digest_r4 : List Cond := [Cond.methodLink RX3 157 yX3_anyBy, Cond.instanceMethod yX3_anyBy, Cond.selects RX3 yX3_anyBy yX3_anyBy, Cond.code yX3_anyBy cX3_anyBy 5 (some .boolean), Cond.methodLink RX3 154 yX3_isFound, Cond.instanceMethod yX3_isFound, Cond.selects RX3 yX3_isFound yX3_isFound, Cond.code yX3_isFound cX3_isFound 5 (some .boolean), Cond.fieldLink RX3 85 "NineDrawersModel" "found" "I", Cond.fieldLink RX3 25 "NineDrawersModel" "foundIn" "[I", Cond.fieldLink RX3 28 "NineDrawersModel" "foundOn" "[I", Cond.fieldLink RX3 31 "NineDrawersModel" "foundIs" "[I", Cond.methodLink RX3 135 yX3_personNow, Cond.instanceMethod yX3_personNow, Cond.selects RX3 yX3_personNow yX3_personNow, Cond.code yX3_personNow cX3_personNow 3 (some .int), Cond.methodLink RX3 163 yX3_whoNow, Cond.instanceMethod yX3_whoNow, Cond.selects RX3 yX3_whoNow yX3_whoNow, Cond.code yX3_whoNow cX3_whoNow 9 (some .int), Cond.methodLink RX3 208 yX3_howMany, Cond.instanceMethod yX3_howMany, Cond.selects RX3 yX3_howMany yX3_howMany, Cond.code yX3_howMany cX3_howMany 2 (some .int)]
def wsX3_digest_r5 : List Cond := [Cond.fieldLink RX3 79 "NineDrawersModel" "chests" "I", Cond.fieldLink RX3 147 "NineDrawersModel" "asks" "I", Cond.methodLink RX3 202 yX3_agreeingDrawers, Cond.instanceMethod yX3_agreeingDrawers, Cond.selects RX3 yX3_agreeingDrawers yX3_agreeingDrawers, Cond.code yX3_agreeingDrawers cX3_agreeingDrawers 3 (some .int), Cond.methodLink RX3 181 yX3_anyLaid, Cond.instanceMethod yX3_anyLaid, Cond.selects RX3 yX3_anyLaid yX3_anyLaid, Cond.code yX3_anyLaid cX3_anyLaid 5 (some .boolean), Cond.methodLink RX3 205 yX3_laidAll, Cond.instanceMethod yX3_laidAll, Cond.selects RX3 yX3_laidAll yX3_laidAll, Cond.code yX3_laidAll cX3_laidAll 3 (some .int), Cond.methodLink RX3 141 yX3_size, Cond.static yX3_size, Cond.code yX3_size cX3_size 3 (some .int)]
def wsX3_digest : List Cond := .code yX3_digest cX3_digest 3 (some .long) :: ((wsX3_digest_r1 ++ (wsX3_digest_r2 ++ (wsX3_digest_r3 ++ (wsX3_digest_r4 ++ wsX3_digest_r5)))) ++ wsX30)
def wsL_law_r1 : List Cond := [Cond.classLink RL 7 RX2, Cond.instantiable RX2 10, Cond.initialized RX2, Cond.classLink RL 10 RX3, Cond.instantiable RX3 29, Cond.initialized RX3, Cond.methodLink RL 9 yX2_init, Cond.instanceMethod yX2_init, Cond.code yX2_init cX2_init 1 none, Cond.methodLink RX2 3 objectInit, Cond.instanceMethod objectInit, Cond.code objectInit ⟨#[0xb1]⟩ 1 none, Cond.arrayClass .int, Cond.fieldLink RX2 9 "NineDrawers" "page" "[I", Cond.fieldLink RX2 13 "NineDrawers" "delayOf" "[I", Cond.classLink RX2 16 RX1, Cond.instantiable RX1 9, Cond.initialized RX1, Cond.fieldLink RX2 19 "NineDrawers" "hall" "LNineDrawers$Hall;", Cond.fieldLink RX2 23 "NineDrawers" "kept" "LNineDrawers$Hall;", Cond.classLink RX2 26 RX0, Cond.instantiable RX0 7, Cond.initialized RX0, Cond.fieldLink RX2 29 "NineDrawers" "course" "LNineDrawers$Course;"]
def wsL_law_r2 : List Cond := [Cond.instanceMethod yX1_init, Cond.code yX1_init cX1_init 1 none, Cond.methodLink RX1 3 objectInit, Cond.fieldLink RX1 9 "NineDrawers$Hall" "kindOf" "[I", Cond.fieldLink RX1 15 "NineDrawers$Hall" "drawerOf" "[I", Cond.fieldLink RX1 18 "NineDrawers$Hall" "ownDayOf" "[I", Cond.fieldLink RX1 21 "NineDrawers$Hall" "laidIn" "[I", Cond.fieldLink RX1 24 "NineDrawers$Hall" "foundThere" "[I", Cond.fieldLink RX1 27 "NineDrawers$Hall" "foundEmpty" "[I", Cond.instanceMethod yX0_init, Cond.code yX0_init cX0_init 1 none, Cond.methodLink RX0 3 objectInit, Cond.methodLink RL 12 yX3_init, Cond.instanceMethod yX3_init, Cond.code yX3_init cX3_init 1 none, Cond.methodLink RX3 1 objectInit, Cond.fieldLink RX3 7 "NineDrawersModel" "delayOf" "[I", Cond.fieldLink RX3 13 "NineDrawersModel" "laidIn" "[I", Cond.fieldLink RX3 16 "NineDrawersModel" "kindOf" "[I", Cond.fieldLink RX3 19 "NineDrawersModel" "drawerOf" "[I", Cond.fieldLink RX3 22 "NineDrawersModel" "dayOf" "[I", Cond.fieldLink RX3 25 "NineDrawersModel" "foundIn" "[I", Cond.fieldLink RX3 28 "NineDrawersModel" "foundOn" "[I", Cond.fieldLink RX3 31 "NineDrawersModel" "foundIs" "[I"]
def wsL_law_r3 : List Cond := [Cond.arrayClass .byte, Cond.fieldLink RX3 34 "NineDrawersModel" "page" "[B", Cond.fieldLink RX3 38 "NineDrawersModel" "keptLaid" "[I", Cond.fieldLink RX3 41 "NineDrawersModel" "keptDrawer" "[I", Cond.fieldLink RX3 44 "NineDrawersModel" "keptDay" "[I", Cond.fieldLink RX3 47 "NineDrawersModel" "keptIn" "[I", Cond.fieldLink RX3 50 "NineDrawersModel" "keptOn" "[I", Cond.fieldLink RX3 53 "NineDrawersModel" "keptIs" "[I", Cond.methodLink RL 13 yX2_letter, Cond.instanceMethod yX2_letter, Cond.selects RX2 yX2_letter yX2_letter, Cond.code yX2_letter cX2_letter 2 (some .int), Cond.fieldLink RX2 33 "NineDrawers" "pageLength" "I", Cond.methodLink RL 17 yX3_letter, Cond.instanceMethod yX3_letter, Cond.selects RX3 yX3_letter yX3_letter, Cond.code yX3_letter cX3_letter 2 (some .int), Cond.fieldLink RX3 60 "NineDrawersModel" "pageLength" "I", Cond.methodLink RX3 56 yX3_within, Cond.static yX3_within, Cond.code yX3_within cX3_within 3 (some .boolean), Cond.methodLink RL 18 yX2_blank, Cond.instanceMethod yX2_blank, Cond.selects RX2 yX2_blank yX2_blank]
def wsL_law_r4 : List Cond := [Cond.code yX2_blank cX2_blank 2 (some .int), Cond.methodLink RL 22 yX3_blank, Cond.instanceMethod yX3_blank, Cond.selects RX3 yX3_blank yX3_blank, Cond.code yX3_blank cX3_blank 2 (some .int), Cond.methodLink RL 23 yX2_fault, Cond.instanceMethod yX2_fault, Cond.selects RX2 yX2_fault yX2_fault, Cond.code yX2_fault cX2_fault 1 (some .int), Cond.methodLink RX2 37 yX2_fittingLetters, Cond.instanceMethod yX2_fittingLetters, Cond.selects RX2 yX2_fittingLetters yX2_fittingLetters, Cond.code yX2_fittingLetters cX2_fittingLetters 2 (some .int), Cond.methodLink RX2 222 yX2_fits, Cond.static yX2_fits, Cond.code yX2_fits cX2_fits 2 (some .boolean), Cond.methodLink RL 26 yX3_fault, Cond.instanceMethod yX3_fault, Cond.selects RX3 yX3_fault yX3_fault, Cond.code yX3_fault cX3_fault 1 (some .int), Cond.methodLink RX3 68 yX3_faultNow, Cond.instanceMethod yX3_faultNow, Cond.selects RX3 yX3_faultNow yX3_faultNow, Cond.code yX3_faultNow cX3_faultNow 2 (some .int)]
def wsL_law_r5 : List Cond := [Cond.methodLink RX3 64 yX3_delayBy, Cond.static yX3_delayBy, Cond.code yX3_delayBy cX3_delayBy 1 (some .int), Cond.methodLink RL 27 yX2_chest, Cond.instanceMethod yX2_chest, Cond.selects RX2 yX2_chest yX2_chest, Cond.code yX2_chest cX2_chest 3 (some .int), Cond.fieldLink RX2 49 "NineDrawers" "hasChest" "Z", Cond.fieldLink RX2 53 "NineDrawers" "hasImage" "Z", Cond.fieldLink RX2 56 "NineDrawers" "chestsRead" "I", Cond.methodLink RX2 41 yX2_delayByLetter, Cond.static yX2_delayByLetter, Cond.code yX2_delayByLetter cX2_delayByLetter 1 (some .int), Cond.methodLink RX2 45 yX1_clear, Cond.instanceMethod yX1_clear, Cond.selects RX1 yX1_clear yX1_clear, Cond.code yX1_clear cX1_clear 3 none, Cond.fieldLink RX1 30 "NineDrawers$Hall" "facing" "I", Cond.fieldLink RX1 34 "NineDrawers$Hall" "people" "I", Cond.methodLink RX1 37 yX1_clearFound, Cond.instanceMethod yX1_clearFound, Cond.selects RX1 yX1_clearFound yX1_clearFound, Cond.code yX1_clearFound cX1_clearFound 2 none, Cond.fieldLink RX1 40 "NineDrawers$Hall" "timesFound" "I"]
def wsL_law_r6 : List Cond := [Cond.methodLink RL 30 yX3_chest, Cond.instanceMethod yX3_chest, Cond.selects RX3 yX3_chest yX3_chest, Cond.code yX3_chest cX3_chest 3 (some .int), Cond.fieldLink RX3 72 "NineDrawersModel" "facing" "I", Cond.fieldLink RX3 75 "NineDrawersModel" "isChest" "Z", Cond.fieldLink RX3 79 "NineDrawersModel" "chests" "I", Cond.fieldLink RX3 82 "NineDrawersModel" "people" "I", Cond.fieldLink RX3 85 "NineDrawersModel" "found" "I", Cond.methodLink RL 31 yX2_face, Cond.instanceMethod yX2_face, Cond.selects RX2 yX2_face yX2_face, Cond.code yX2_face cX2_face 3 (some .int), Cond.fieldLink RX2 59 "NineDrawers$Hall" "facing" "I", Cond.methodLink RL 34 yX3_face, Cond.instanceMethod yX3_face, Cond.selects RX3 yX3_face yX3_face, Cond.code yX3_face cX3_face 3 (some .int), Cond.methodLink RL 35 yX2_drawer, Cond.instanceMethod yX2_drawer, Cond.selects RX2 yX2_drawer yX2_drawer, Cond.code yX2_drawer cX2_drawer 3 (some .int), Cond.fieldLink RX2 72 "NineDrawers$Hall" "laidIn" "[I", Cond.methodLink RX2 62 yX2_isDrawer]
def wsL_law_r7 : List Cond := [Cond.instanceMethod yX2_isDrawer, Cond.selects RX2 yX2_isDrawer yX2_isDrawer, Cond.code yX2_isDrawer cX2_isDrawer 2 (some .boolean), Cond.methodLink RX2 66 yX2_aheadOf, Cond.instanceMethod yX2_aheadOf, Cond.selects RX2 yX2_aheadOf yX2_aheadOf, Cond.code yX2_aheadOf cX2_aheadOf 2 (some .int), Cond.methodLink RX2 69 yX1_peopleOf, Cond.instanceMethod yX1_peopleOf, Cond.selects RX1 yX1_peopleOf yX1_peopleOf, Cond.code yX1_peopleOf cX1_peopleOf 4 (some .int), Cond.methodLink RX2 75 yX2_courseOf, Cond.instanceMethod yX2_courseOf, Cond.selects RX2 yX2_courseOf yX2_courseOf, Cond.code yX2_courseOf cX2_courseOf 3 (some (.object "NineDrawers$Course")), Cond.methodLink RX2 123 yX2_courseWithout, Cond.instanceMethod yX2_courseWithout, Cond.selects RX2 yX2_courseWithout yX2_courseWithout, Cond.code yX2_courseWithout cX2_courseWithout 4 (some (.object "NineDrawers$Course")), Cond.fieldLink RX2 94 "NineDrawers$Hall" "people" "I", Cond.fieldLink RX2 100 "NineDrawers$Hall" "drawerOf" "[I", Cond.fieldLink RX2 97 "NineDrawers$Hall" "kindOf" "[I", Cond.fieldLink RX2 103 "NineDrawers$Hall" "ownDayOf" "[I", Cond.methodLink RX2 225 yX0_start]
def wsL_law_r8 : List Cond := [Cond.instanceMethod yX0_start, Cond.selects RX0 yX0_start yX0_start, Cond.code yX0_start cX0_start 3 none, Cond.fieldLink RX0 9 "NineDrawers$Course" "ahead" "I", Cond.fieldLink RX0 15 "NineDrawers$Course" "laid" "I", Cond.fieldLink RX0 18 "NineDrawers$Course" "putIfEmpty" "I", Cond.fieldLink RX0 21 "NineDrawers$Course" "putIfThere" "I", Cond.methodLink RX2 229 yX0_join, Cond.instanceMethod yX0_join, Cond.selects RX0 yX0_join yX0_join, Cond.code yX0_join cX0_join 3 none, Cond.static yX2_putsIfEmpty, Cond.code yX2_putsIfEmpty cX2_putsIfEmpty 2 (some .int), Cond.static yX2_putsIfThere, Cond.code yX2_putsIfThere cX2_putsIfThere 2 (some .int), Cond.methodLink RX2 160 yX0_settle, Cond.instanceMethod yX0_settle, Cond.selects RX0 yX0_settle yX0_settle, Cond.code yX0_settle cX0_settle 1 none, Cond.fieldLink RX0 35 "NineDrawers$Course" "canHold" "I", Cond.fieldLink RX0 38 "NineDrawers$Course" "canLack" "I", Cond.fieldLink RX0 45 "NineDrawers$Course" "stuck" "I", Cond.methodLink RX0 31 yX0_mustBe, Cond.instanceMethod yX0_mustBe]
def wsL_law_r9 : List Cond := [Cond.selects RX0 yX0_mustBe yX0_mustBe, Cond.code yX0_mustBe cX0_mustBe 3 (some .int), Cond.methodLink RX0 41 yX0_onlyWeek, Cond.instanceMethod yX0_onlyWeek, Cond.selects RX0 yX0_onlyWeek yX0_onlyWeek, Cond.code yX0_onlyWeek cX0_onlyWeek 3 (some .int), Cond.methodLink RX2 79 yX0_agreeing, Cond.instanceMethod yX0_agreeing, Cond.selects RX0 yX0_agreeing yX0_agreeing, Cond.code yX0_agreeing cX0_agreeing 1 (some .int), Cond.methodLink RX0 48 yJ6_bitCount_0f7a4, Cond.static yJ6_bitCount_0f7a4, Cond.initialized RJ6, Cond.code yJ6_bitCount_0f7a4 cJ6_bitCount_0f7a4 1 (some .int), Cond.constant RJ6 265 (1431655765), Cond.constant RJ6 266 (858993459), Cond.constant RJ6 267 (252645135), Cond.methodLink RX2 82 yX0_firstStuckDay, Cond.instanceMethod yX0_firstStuckDay, Cond.selects RX0 yX0_firstStuckDay yX0_firstStuckDay, Cond.code yX0_firstStuckDay cX0_firstStuckDay 2 (some .int), Cond.static yX2_bitOf, Cond.code yX2_bitOf cX2_bitOf 2 (some .int), Cond.methodLink RX2 85 yX0_leastWeek]
def wsL_law_r10 : List Cond := [Cond.instanceMethod yX0_leastWeek, Cond.selects RX0 yX0_leastWeek yX0_leastWeek, Cond.code yX0_leastWeek cX0_leastWeek 1 (some .int), Cond.methodLink RL 39 yX3_drawer, Cond.instanceMethod yX3_drawer, Cond.selects RX3 yX3_drawer yX3_drawer, Cond.code yX3_drawer cX3_drawer 3 (some .int), Cond.methodLink RX3 122 yX3_isDrawer, Cond.instanceMethod yX3_isDrawer, Cond.selects RX3 yX3_isDrawer yX3_isDrawer, Cond.code yX3_isDrawer cX3_isDrawer 2 (some .boolean), Cond.methodLink RX3 126 yX3_drawerNow, Cond.instanceMethod yX3_drawerNow, Cond.selects RX3 yX3_drawerNow yX3_drawerNow, Cond.code yX3_drawerNow cX3_drawerNow 3 (some .int), Cond.methodLink RX3 100 yX3_aheadOf, Cond.instanceMethod yX3_aheadOf, Cond.selects RX3 yX3_aheadOf yX3_aheadOf, Cond.code yX3_aheadOf cX3_aheadOf 2 (some .int), Cond.methodLink RX3 110 yX3_peopleOf, Cond.instanceMethod yX3_peopleOf, Cond.selects RX3 yX3_peopleOf yX3_peopleOf, Cond.code yX3_peopleOf cX3_peopleOf 4 (some .int), Cond.methodLink RX3 113 yX3_agreeing]
def wsL_law_r11 : List Cond := [Cond.instanceMethod yX3_agreeing, Cond.selects RX3 yX3_agreeing yX3_agreeing, Cond.code yX3_agreeing cX3_agreeing 4 (some .int), Cond.methodLink RX3 107 yX3_isSo, Cond.instanceMethod yX3_isSo, Cond.selects RX3 yX3_isSo yX3_isSo, Cond.code yX3_isSo cX3_isSo 3 (some .boolean), Cond.methodLink RX3 103 yX3_firstWrong, Cond.instanceMethod yX3_firstWrong, Cond.selects RX3 yX3_firstWrong yX3_firstWrong, Cond.code yX3_firstWrong cX3_firstWrong 8 (some .int), Cond.methodLink RX3 96 yX3_putBy, Cond.instanceMethod yX3_putBy, Cond.selects RX3 yX3_putBy yX3_putBy, Cond.code yX3_putBy cX3_putBy 6 (some .int), Cond.methodLink RX3 88 yX3_has, Cond.static yX3_has, Cond.code yX3_has cX3_has 2 (some .boolean), Cond.methodLink RX3 92 yX3_puts, Cond.static yX3_puts, Cond.code yX3_puts cX3_puts 4 (some .boolean), Cond.methodLink RX3 116 yX3_cannotOf, Cond.instanceMethod yX3_cannotOf, Cond.selects RX3 yX3_cannotOf yX3_cannotOf]
def wsL_law_r12 : List Cond := [Cond.code yX3_cannotOf cX3_cannotOf 5 (some .int), Cond.methodLink RX3 119 yX3_leastOf, Cond.instanceMethod yX3_leastOf, Cond.selects RX3 yX3_leastOf yX3_leastOf, Cond.code yX3_leastOf cX3_leastOf 3 (some .int), Cond.methodLink RL 40 yX2_person, Cond.instanceMethod yX2_person, Cond.selects RX2 yX2_person yX2_person, Cond.code yX2_person cX2_person 5 (some .int), Cond.methodLink RX2 88 yX2_isKind, Cond.static yX2_isKind, Cond.code yX2_isKind cX2_isKind 1 (some .boolean), Cond.methodLink RX2 91 yX2_isDay, Cond.static yX2_isDay, Cond.code yX2_isDay cX2_isDay 1 (some .boolean), Cond.methodLink RL 44 yX3_person, Cond.instanceMethod yX3_person, Cond.selects RX3 yX3_person yX3_person, Cond.code yX3_person cX3_person 4 (some .int), Cond.methodLink RX3 129 yX3_isDay, Cond.static yX3_isDay, Cond.code yX3_isDay cX3_isDay 1 (some .boolean), Cond.methodLink RL 45 yX2_about, Cond.instanceMethod yX2_about]
def wsL_law_r13 : List Cond := [Cond.selects RX2 yX2_about yX2_about, Cond.code yX2_about cX2_about 5 (some .int), Cond.methodLink RX2 106 yX2_isPerson, Cond.instanceMethod yX2_isPerson, Cond.selects RX2 yX2_isPerson yX2_isPerson, Cond.code yX2_isPerson cX2_isPerson 2 (some .boolean), Cond.methodLink RX2 109 yX2_putsIfEmpty, Cond.methodLink RX2 113 yX2_bitOf, Cond.methodLink RX2 116 yX2_putsIfThere, Cond.methodLink RL 48 yX3_about, Cond.instanceMethod yX3_about, Cond.selects RX3 yX3_about yX3_about, Cond.code yX3_about cX3_about 4 (some .int), Cond.methodLink RX3 132 yX3_isPerson, Cond.instanceMethod yX3_isPerson, Cond.selects RX3 yX3_isPerson yX3_isPerson, Cond.code yX3_isPerson cX3_isPerson 2 (some .boolean), Cond.methodLink RX3 135 yX3_personNow, Cond.instanceMethod yX3_personNow, Cond.selects RX3 yX3_personNow yX3_personNow, Cond.code yX3_personNow cX3_personNow 3 (some .int), Cond.methodLink RL 49 yX2_as, Cond.instanceMethod yX2_as, Cond.selects RX2 yX2_as yX2_as]
def wsL_law_r14 : List Cond := [Cond.code yX2_as cX2_as 3 (some .int), Cond.methodLink RX2 119 yX2_isOfKind, Cond.static yX2_isOfKind, Cond.code yX2_isOfKind cX2_isOfKind 2 (some .boolean), Cond.methodLink RL 52 yX3_as, Cond.instanceMethod yX3_as, Cond.selects RX3 yX3_as yX3_as, Cond.code yX3_as cX3_as 4 (some .int), Cond.methodLink RL 53 yX2_move, Cond.instanceMethod yX2_move, Cond.selects RX2 yX2_move yX2_move, Cond.code yX2_move cX2_move 4 (some .int), Cond.methodLink RL 56 yX3_move, Cond.instanceMethod yX3_move, Cond.selects RX3 yX3_move yX3_move, Cond.code yX3_move cX3_move 4 (some .int), Cond.methodLink RL 57 yX2_lay, Cond.instanceMethod yX2_lay, Cond.selects RX2 yX2_lay yX2_lay, Cond.code yX2_lay cX2_lay 5 (some .int), Cond.methodLink RL 61 yX3_lay, Cond.instanceMethod yX3_lay, Cond.selects RX3 yX3_lay yX3_lay, Cond.code yX3_lay cX3_lay 5 (some .int)]
def wsL_law_r15 : List Cond := [Cond.methodLink RL 62 yX2_agrees, Cond.instanceMethod yX2_agrees, Cond.selects RX2 yX2_agrees yX2_agrees, Cond.code yX2_agrees cX2_agrees 3 (some .int), Cond.methodLink RX2 127 yX0_mustBe, Cond.methodLink RL 65 yX3_agrees, Cond.instanceMethod yX3_agrees, Cond.selects RX3 yX3_agrees yX3_agrees, Cond.code yX3_agrees cX3_agrees 3 (some .int), Cond.methodLink RL 66 yX2_sure, Cond.instanceMethod yX2_sure, Cond.selects RX2 yX2_sure yX2_sure, Cond.code yX2_sure cX2_sure 3 (some .int), Cond.methodLink RX2 130 yX0_sureOn, Cond.instanceMethod yX0_sureOn, Cond.selects RX0 yX0_sureOn yX0_sureOn, Cond.code yX0_sureOn cX0_sureOn 2 (some .int), Cond.methodLink RL 69 yX3_sure, Cond.instanceMethod yX3_sure, Cond.selects RX3 yX3_sure yX3_sure, Cond.code yX3_sure cX3_sure 3 (some .int), Cond.methodLink RX3 138 yX3_sureNow, Cond.instanceMethod yX3_sureNow, Cond.selects RX3 yX3_sureNow yX3_sureNow]
def wsL_law_r16 : List Cond := [Cond.code yX3_sureNow cX3_sureNow 5 (some .int), Cond.methodLink RL 70 yX2_few, Cond.instanceMethod yX2_few, Cond.selects RX2 yX2_few yX2_few, Cond.code yX2_few cX2_few 5 (some .int), Cond.fieldLink RX2 133 "NineDrawers" "fewDone" "I", Cond.methodLink RX2 136 yX2_fewestLaid, Cond.static yX2_fewestLaid, Cond.code yX2_fewestLaid cX2_fewestLaid 4 (some .int), Cond.fieldLink RX2 171 "NineDrawers$Course" "laid" "I", Cond.methodLink RX2 140 yJ6_bitCount_0f7a4, Cond.methodLink RX2 235 yX0_isSureOfAll, Cond.instanceMethod yX0_isSureOfAll, Cond.selects RX0 yX0_isSureOfAll yX0_isSureOfAll, Cond.code yX0_isSureOfAll cX0_isSureOfAll 2 (some .boolean), Cond.methodLink RL 73 yX3_few, Cond.instanceMethod yX3_few, Cond.selects RX3 yX3_few yX3_few, Cond.code yX3_few cX3_few 4 (some .int), Cond.fieldLink RX3 147 "NineDrawersModel" "asks" "I", Cond.methodLink RX3 150 yX3_fewNow, Cond.instanceMethod yX3_fewNow, Cond.selects RX3 yX3_fewNow yX3_fewNow, Cond.code yX3_fewNow cX3_fewNow 7 (some .int)]
def wsL_law_r17 : List Cond := [Cond.methodLink RX3 141 yX3_size, Cond.static yX3_size, Cond.code yX3_size cX3_size 3 (some .int), Cond.methodLink RX3 144 yX3_isEnough, Cond.instanceMethod yX3_isEnough, Cond.selects RX3 yX3_isEnough yX3_isEnough, Cond.code yX3_isEnough cX3_isEnough 7 (some .boolean), Cond.methodLink RL 74 yX2_found, Cond.instanceMethod yX2_found, Cond.selects RX2 yX2_found yX2_found, Cond.code yX2_found cX2_found 4 (some .int), Cond.fieldLink RX2 145 "NineDrawers$Hall" "timesFound" "I", Cond.fieldLink RX2 148 "NineDrawers$Hall" "foundThere" "[I", Cond.fieldLink RX2 151 "NineDrawers$Hall" "foundEmpty" "[I", Cond.methodLink RL 77 yX3_found, Cond.instanceMethod yX3_found, Cond.selects RX3 yX3_found yX3_found, Cond.code yX3_found cX3_found 4 (some .int), Cond.methodLink RL 78 yX2_forget, Cond.instanceMethod yX2_forget, Cond.selects RX2 yX2_forget yX2_forget, Cond.code yX2_forget cX2_forget 2 (some .int), Cond.methodLink RX2 154 yX1_clearFound, Cond.methodLink RL 81 yX3_forget]
def wsL_law_r18 : List Cond := [Cond.instanceMethod yX3_forget, Cond.selects RX3 yX3_forget yX3_forget, Cond.code yX3_forget cX3_forget 2 (some .int), Cond.methodLink RL 82 yX2_delays, Cond.instanceMethod yX2_delays, Cond.selects RX2 yX2_delays yX2_delays, Cond.code yX2_delays cX2_delays 5 (some .int), Cond.fieldLink RX2 157 "NineDrawers$Course" "ahead" "I", Cond.methodLink RX2 163 yX2_isAsFound, Cond.instanceMethod yX2_isAsFound, Cond.selects RX2 yX2_isAsFound yX2_isAsFound, Cond.code yX2_isAsFound cX2_isAsFound 3 (some .boolean), Cond.methodLink RX2 232 yX0_allows, Cond.instanceMethod yX0_allows, Cond.selects RX0 yX0_allows yX0_allows, Cond.code yX0_allows cX0_allows 3 (some .boolean), Cond.methodLink RL 85 yX3_delays, Cond.instanceMethod yX3_delays, Cond.selects RX3 yX3_delays yX3_delays, Cond.code yX3_delays cX3_delays 2 (some .int), Cond.methodLink RX3 160 yX3_delaysOf, Cond.instanceMethod yX3_delaysOf, Cond.selects RX3 yX3_delaysOf yX3_delaysOf, Cond.code yX3_delaysOf cX3_delaysOf 4 (some .int)]
def wsL_law_r19 : List Cond := [Cond.methodLink RX3 157 yX3_anyBy, Cond.instanceMethod yX3_anyBy, Cond.selects RX3 yX3_anyBy yX3_anyBy, Cond.code yX3_anyBy cX3_anyBy 5 (some .boolean), Cond.methodLink RX3 154 yX3_isFound, Cond.instanceMethod yX3_isFound, Cond.selects RX3 yX3_isFound yX3_isFound, Cond.code yX3_isFound cX3_isFound 5 (some .boolean), Cond.methodLink RL 86 yX2_who, Cond.instanceMethod yX2_who, Cond.selects RX2 yX2_who yX2_who, Cond.code yX2_who cX2_who 7 (some .int), Cond.methodLink RX2 167 yX2_canBe, Cond.instanceMethod yX2_canBe, Cond.selects RX2 yX2_canBe yX2_canBe, Cond.code yX2_canBe cX2_canBe 6 (some .boolean), Cond.methodLink RL 89 yX3_who, Cond.instanceMethod yX3_who, Cond.selects RX3 yX3_who yX3_who, Cond.code yX3_who cX3_who 3 (some .int), Cond.methodLink RX3 163 yX3_whoNow, Cond.instanceMethod yX3_whoNow, Cond.selects RX3 yX3_whoNow yX3_whoNow, Cond.code yX3_whoNow cX3_whoNow 9 (some .int)]
def wsL_law_r20 : List Cond := [Cond.methodLink RL 90 yX2_weeks, Cond.instanceMethod yX2_weeks, Cond.selects RX2 yX2_weeks yX2_weeks, Cond.code yX2_weeks cX2_weeks 10 (some .int), Cond.fieldLink RX2 180 "NineDrawers$Course" "stuck" "I", Cond.methodLink RX2 174 yX2_nextSeed, Cond.static yX2_nextSeed, Cond.code yX2_nextSeed cX2_nextSeed 1 (some .int), Cond.constant RX2 238 (1103515245), Cond.constant RX2 239 (2147483647), Cond.methodLink RX2 177 yX2_drawOf, Cond.static yX2_drawOf, Cond.code yX2_drawOf cX2_drawOf 2 (some .int), Cond.constant RX2 240 (65536), Cond.methodLink RL 93 yX3_weeks, Cond.instanceMethod yX3_weeks, Cond.selects RX3 yX3_weeks yX3_weeks, Cond.code yX3_weeks cX3_weeks 4 (some .int), Cond.methodLink RX3 184 yX3_weeksNow, Cond.instanceMethod yX3_weeksNow, Cond.selects RX3 yX3_weeksNow yX3_weeksNow, Cond.code yX3_weeksNow cX3_weeksNow 8 (some .int), Cond.fieldLink RX3 168 "NineDrawersModel" "seedNow" "J", Cond.methodLink RX3 178 yX3_draw]
def wsL_law_r21 : List Cond := [Cond.instanceMethod yX3_draw, Cond.selects RX3 yX3_draw yX3_draw, Cond.code yX3_draw cX3_draw 2 (some .int), Cond.constantLong RX3 166 (1103515245), Cond.constantLong RX3 172 (12345), Cond.constantLong RX3 174 (2147483647), Cond.constantLong RX3 176 (65536), Cond.methodLink RX3 181 yX3_anyLaid, Cond.instanceMethod yX3_anyLaid, Cond.selects RX3 yX3_anyLaid yX3_anyLaid, Cond.code yX3_anyLaid cX3_anyLaid 5 (some .boolean), Cond.methodLink RL 94 yX2_image, Cond.instanceMethod yX2_image, Cond.selects RX2 yX2_image yX2_image, Cond.code yX2_image cX2_image 1 (some .int), Cond.methodLink RX2 183 yX1_takeFrom, Cond.instanceMethod yX1_takeFrom, Cond.selects RX1 yX1_takeFrom yX1_takeFrom, Cond.code yX1_takeFrom cX1_takeFrom 3 none, Cond.methodLink RL 97 yX3_image, Cond.instanceMethod yX3_image, Cond.selects RX3 yX3_image yX3_image, Cond.code yX3_image cX3_image 2 (some .int), Cond.fieldLink RX3 187 "NineDrawersModel" "isKept" "Z"]
def wsL_law_r22 : List Cond := [Cond.fieldLink RX3 190 "NineDrawersModel" "keptChest" "I", Cond.fieldLink RX3 193 "NineDrawersModel" "keptFacing" "I", Cond.fieldLink RX3 196 "NineDrawersModel" "keptPeople" "I", Cond.fieldLink RX3 199 "NineDrawersModel" "keptFound" "I", Cond.methodLink RL 98 yX2_restore, Cond.instanceMethod yX2_restore, Cond.selects RX2 yX2_restore yX2_restore, Cond.code yX2_restore cX2_restore 1 (some .int), Cond.methodLink RL 101 yX3_restore, Cond.instanceMethod yX3_restore, Cond.selects RX3 yX3_restore yX3_restore, Cond.code yX3_restore cX3_restore 2 (some .int), Cond.methodLink RL 102 yX2_count, Cond.instanceMethod yX2_count, Cond.selects RX2 yX2_count yX2_count, Cond.code yX2_count cX2_count 2 (some .int), Cond.methodLink RX2 187 yX2_drawersThatAgree, Cond.instanceMethod yX2_drawersThatAgree, Cond.selects RX2 yX2_drawersThatAgree yX2_drawersThatAgree, Cond.code yX2_drawersThatAgree cX2_drawersThatAgree 3 (some .int), Cond.methodLink RX2 190 yX1_thingsLaid, Cond.instanceMethod yX1_thingsLaid, Cond.selects RX1 yX1_thingsLaid yX1_thingsLaid, Cond.code yX1_thingsLaid cX1_thingsLaid 3 (some .int)]
def wsL_law_r23 : List Cond := [Cond.methodLink RX1 43 yJ6_bitCount_0f7a4, Cond.methodLink RL 105 yX3_count, Cond.instanceMethod yX3_count, Cond.selects RX3 yX3_count yX3_count, Cond.code yX3_count cX3_count 2 (some .int), Cond.methodLink RX3 208 yX3_howMany, Cond.instanceMethod yX3_howMany, Cond.selects RX3 yX3_howMany yX3_howMany, Cond.code yX3_howMany cX3_howMany 2 (some .int), Cond.methodLink RX3 202 yX3_agreeingDrawers, Cond.instanceMethod yX3_agreeingDrawers, Cond.selects RX3 yX3_agreeingDrawers yX3_agreeingDrawers, Cond.code yX3_agreeingDrawers cX3_agreeingDrawers 3 (some .int), Cond.methodLink RX3 205 yX3_laidAll, Cond.instanceMethod yX3_laidAll, Cond.selects RX3 yX3_laidAll yX3_laidAll, Cond.code yX3_laidAll cX3_laidAll 3 (some .int), Cond.methodLink RL 106 yX2_digest, Cond.instanceMethod yX2_digest, Cond.selects RX2 yX2_digest yX2_digest, Cond.code yX2_digest cX2_digest 4 (some .long), Cond.constantLong RX2 193 (853), Cond.constantLong RX2 202 (31), Cond.methodLink RX2 195 yX2_digestOfDrawer]
def wsL_law_r24 : List Cond := [Cond.instanceMethod yX2_digestOfDrawer, Cond.selects RX2 yX2_digestOfDrawer yX2_digestOfDrawer, Cond.code yX2_digestOfDrawer cX2_digestOfDrawer 7 (some .long), Cond.methodLink RX2 207 yX2_drawer, Cond.methodLink RX2 210 yX2_sure, Cond.methodLink RX2 213 yX2_delays, Cond.methodLink RX2 199 yX2_digestOfPerson, Cond.instanceMethod yX2_digestOfPerson, Cond.selects RX2 yX2_digestOfPerson yX2_digestOfPerson, Cond.code yX2_digestOfPerson cX2_digestOfPerson 7 (some .long), Cond.methodLink RX2 216 yX2_about, Cond.methodLink RX2 219 yX2_who, Cond.methodLink RX2 204 yX2_count, Cond.methodLink RL 110 yX3_digest, Cond.instanceMethod yX3_digest, Cond.selects RX3 yX3_digest yX3_digest, Cond.code yX3_digest cX3_digest 3 (some .long), Cond.constantLong RX3 220 (853), Cond.fieldLink RX3 213 "NineDrawersModel" "h" "J", Cond.methodLink RX3 222 yX3_mixDrawer, Cond.instanceMethod yX3_mixDrawer, Cond.selects RX3 yX3_mixDrawer yX3_mixDrawer, Cond.code yX3_mixDrawer cX3_mixDrawer 3 none, Cond.methodLink RX3 216 yX3_mix]
def wsL_law_r25 : List Cond := [Cond.instanceMethod yX3_mix, Cond.selects RX3 yX3_mix yX3_mix, Cond.code yX3_mix cX3_mix 3 none, Cond.constantLong RX3 211 (31)]
def wsL_law : List Cond := (wsL_law_r1 ++ (wsL_law_r2 ++ (wsL_law_r3 ++ (wsL_law_r4 ++ (wsL_law_r5 ++ (wsL_law_r6 ++ (wsL_law_r7 ++ (wsL_law_r8 ++ (wsL_law_r9 ++ (wsL_law_r10 ++ (wsL_law_r11 ++ (wsL_law_r12 ++ (wsL_law_r13 ++ (wsL_law_r14 ++ (wsL_law_r15 ++ (wsL_law_r16 ++ (wsL_law_r17 ++ (wsL_law_r18 ++ (wsL_law_r19 ++ (wsL_law_r20 ++ (wsL_law_r21 ++ (wsL_law_r22 ++ (wsL_law_r23 ++ (wsL_law_r24 ++ wsL_law_r25)))))))))))))))))))))))) ++ wsX20 ++ wsX30 ++ wsX10 ++ wsX00 ++ ([] : List Cond)
set_option maxRecDepth 20000 in
theorem wlin_wsL_law_r1 : GoodIn lw_tbl wsL_law_r1 := goodIn_r _ [46, 47, 41, 417, 418, 44, 48, 49, 50, 51, 52, 53, 97, 129, 132, 54, 55, 42, 133, 135, 98, 99, 43, 138] (by decide +kernel) (by decide +kernel)
set_option maxRecDepth 20000 in
theorem wlin_wsL_law_r2 : GoodIn lw_tbl wsL_law_r2 := goodIn_r _ [57, 58, 59, 66, 68, 70, 72, 74, 76, 101, 102, 103, 419, 420, 421, 422, 425, 427, 429, 430, 431, 433, 434, 435] (by decide +kernel) (by decide +kernel)
set_option maxRecDepth 20000 in
theorem wlin_wsL_law_r3 : GoodIn lw_tbl wsL_law_r3 := goodIn_r _ [511, 438, 445, 446, 447, 448, 449, 450, 160, 161, 162, 163, 130, 512, 513, 514, 515, 437, 516, 517, 518, 164, 165, 166] (by decide +kernel) (by decide +kernel)
set_option maxRecDepth 20000 in
theorem wlin_wsL_law_r4 : GoodIn lw_tbl wsL_law_r4 := goodIn_r _ [167, 519, 520, 521, 522, 168, 169, 170, 171, 172, 174, 0, 175, 176, 177, 178, 523, 524, 525, 526, 527, 529, 12, 530] (by decide +kernel) (by decide +kernel)
set_option maxRecDepth 20000 in
theorem wlin_wsL_law_r5 : GoodIn lw_tbl wsL_law_r5 := goodIn_r _ [531, 532, 533, 179, 180, 181, 182, 131, 134, 136, 183, 184, 185, 186, 187, 188, 189, 60, 62, 190, 191, 192, 193, 64] (by decide +kernel) (by decide +kernel)
set_option maxRecDepth 20000 in
theorem wlin_wsL_law_r6 : GoodIn lw_tbl wsL_law_r6 := goodIn_r _ [534, 535, 536, 537, 426, 423, 424, 428, 432, 194, 195, 196, 197, 61, 538, 539, 540, 541, 198, 199, 200, 201, 73, 202] (by decide +kernel) (by decide +kernel)
set_option maxRecDepth 20000 in
theorem wlin_wsL_law_r7 : GoodIn lw_tbl wsL_law_r7 := goodIn_r _ [204, 1, 205, 206, 208, 2, 209, 210, 211, 212, 213, 214, 216, 3, 217, 218, 220, 4, 221, 63, 69, 67, 71, 222] (by decide +kernel) (by decide +kernel)
set_option maxRecDepth 20000 in
theorem wlin_wsL_law_r8 : GoodIn lw_tbl wsL_law_r8 := goodIn_r _ [223, 224, 225, 104, 106, 108, 109, 226, 227, 228, 229, 231, 232, 234, 235, 236, 237, 238, 239, 110, 111, 112, 240, 241] (by decide +kernel) (by decide +kernel)
set_option maxRecDepth 20000 in
theorem wlin_wsL_law_r9 : GoodIn lw_tbl wsL_law_r9 := goodIn_r _ [242, 243, 244, 246, 5, 247, 248, 249, 250, 251, 252, 253, 45, 254, 255, 256, 257, 258, 259, 260, 261, 263, 264, 265] (by decide +kernel) (by decide +kernel)
set_option maxRecDepth 20000 in
theorem wlin_wsL_law_r10 : GoodIn lw_tbl wsL_law_r10 := goodIn_r _ [266, 267, 268, 542, 543, 544, 545, 546, 548, 13, 549, 550, 552, 14, 553, 554, 556, 15, 557, 558, 560, 16, 561, 562] (by decide +kernel) (by decide +kernel)
set_option maxRecDepth 20000 in
theorem wlin_wsL_law_r11 : GoodIn lw_tbl wsL_law_r11 := goodIn_r _ [564, 17, 565, 566, 568, 18, 569, 570, 572, 19, 573, 574, 576, 20, 577, 578, 579, 580, 581, 582, 583, 584, 586, 21] (by decide +kernel) (by decide +kernel)
set_option maxRecDepth 20000 in
theorem wlin_wsL_law_r12 : GoodIn lw_tbl wsL_law_r12 := goodIn_r _ [587, 588, 590, 22, 591, 269, 270, 271, 272, 273, 274, 275, 276, 277, 278, 592, 593, 594, 595, 596, 597, 598, 279, 280] (by decide +kernel) (by decide +kernel)
set_option maxRecDepth 20000 in
theorem wlin_wsL_law_r13 : GoodIn lw_tbl wsL_law_r13 := goodIn_r _ [281, 282, 283, 285, 6, 286, 287, 288, 289, 599, 600, 601, 602, 603, 605, 23, 606, 607, 609, 24, 610, 290, 291, 292] (by decide +kernel) (by decide +kernel)
set_option maxRecDepth 20000 in
theorem wlin_wsL_law_r14 : GoodIn lw_tbl wsL_law_r14 := goodIn_r _ [293, 294, 295, 296, 611, 612, 613, 614, 297, 298, 299, 300, 615, 616, 617, 618, 301, 302, 303, 304, 619, 620, 621, 622] (by decide +kernel) (by decide +kernel)
set_option maxRecDepth 20000 in
theorem wlin_wsL_law_r15 : GoodIn lw_tbl wsL_law_r15 := goodIn_r _ [305, 306, 307, 308, 309, 623, 624, 625, 626, 310, 311, 312, 313, 314, 315, 316, 317, 627, 628, 629, 630, 631, 633, 25] (by decide +kernel) (by decide +kernel)
set_option maxRecDepth 20000 in
theorem wlin_wsL_law_r16 : GoodIn lw_tbl wsL_law_r16 := goodIn_r _ [634, 318, 319, 320, 321, 137, 322, 323, 324, 107, 325, 326, 327, 328, 329, 635, 636, 637, 638, 436, 639, 641, 26, 642] (by decide +kernel) (by decide +kernel)
set_option maxRecDepth 20000 in
theorem wlin_wsL_law_r17 : GoodIn lw_tbl wsL_law_r17 := goodIn_r _ [643, 644, 645, 646, 648, 27, 649, 330, 331, 332, 333, 65, 75, 77, 650, 651, 652, 653, 334, 335, 336, 337, 338, 654] (by decide +kernel) (by decide +kernel)
set_option maxRecDepth 20000 in
theorem wlin_wsL_law_r18 : GoodIn lw_tbl wsL_law_r18 := goodIn_r _ [655, 656, 657, 339, 340, 341, 342, 105, 343, 345, 7, 346, 347, 348, 349, 350, 658, 659, 660, 661, 662, 664, 28, 665] (by decide +kernel) (by decide +kernel)
set_option maxRecDepth 20000 in
theorem wlin_wsL_law_r19 : GoodIn lw_tbl wsL_law_r19 := goodIn_r _ [666, 668, 29, 669, 670, 672, 30, 673, 351, 352, 353, 354, 355, 357, 8, 358, 674, 675, 676, 677, 678, 680, 31, 681] (by decide +kernel) (by decide +kernel)
set_option maxRecDepth 20000 in
theorem wlin_wsL_law_r20 : GoodIn lw_tbl wsL_law_r20 := goodIn_r _ [359, 360, 361, 362, 113, 363, 364, 365, 366, 367, 368, 369, 370, 371, 682, 683, 684, 685, 686, 688, 32, 689, 439, 690] (by decide +kernel) (by decide +kernel)
set_option maxRecDepth 20000 in
theorem wlin_wsL_law_r21 : GoodIn lw_tbl wsL_law_r21 := goodIn_r _ [692, 33, 693, 694, 695, 696, 697, 698, 700, 34, 701, 372, 373, 374, 375, 376, 377, 378, 379, 702, 703, 704, 705, 440] (by decide +kernel) (by decide +kernel)
set_option maxRecDepth 20000 in
theorem wlin_wsL_law_r22 : GoodIn lw_tbl wsL_law_r22 := goodIn_r _ [441, 442, 443, 444, 380, 381, 382, 383, 706, 707, 708, 709, 384, 385, 386, 387, 388, 390, 9, 391, 392, 393, 394, 395] (by decide +kernel) (by decide +kernel)
set_option maxRecDepth 20000 in
theorem wlin_wsL_law_r23 : GoodIn lw_tbl wsL_law_r23 := goodIn_r _ [396, 710, 711, 712, 713, 714, 716, 35, 717, 718, 720, 36, 721, 722, 724, 37, 725, 397, 398, 399, 400, 401, 406, 402] (by decide +kernel) (by decide +kernel)
set_option maxRecDepth 20000 in
theorem wlin_wsL_law_r24 : GoodIn lw_tbl wsL_law_r24 := goodIn_r _ [404, 10, 405, 407, 408, 409, 410, 412, 11, 413, 414, 415, 416, 726, 727, 728, 729, 730, 451, 731, 733, 38, 734, 735] (by decide +kernel) (by decide +kernel)
set_option maxRecDepth 20000 in
theorem wlin_wsL_law_r25 : GoodIn lw_tbl wsL_law_r25 := goodIn_r _ [737, 39, 738, 739] (by decide +kernel) (by decide +kernel)
set_option maxRecDepth 20000 in
theorem wlin_wsX20 : GoodIn lw_tbl wsX20 := goodIn_r _ [139, 141, 143, 145, 147, 149, 151, 153, 155, 157] (by decide +kernel) (by decide +kernel)
set_option maxRecDepth 20000 in
theorem wlin_wsX30 : GoodIn lw_tbl wsX30 := goodIn_r _ [452, 454, 456, 458, 460, 462, 464, 466, 468, 470, 472, 474, 476, 478, 480, 482, 484, 486, 488, 490, 492, 494, 496, 498, 500, 502, 504, 506, 508] (by decide +kernel) (by decide +kernel)
set_option maxRecDepth 20000 in
theorem wlin_wsX10 : GoodIn lw_tbl wsX10 := goodIn_r _ [78, 80, 82, 84, 86, 88, 90, 92, 94] (by decide +kernel) (by decide +kernel)
set_option maxRecDepth 20000 in
theorem wlin_wsX00 : GoodIn lw_tbl wsX00 := goodIn_r _ [114, 116, 118, 120, 122, 124, 126] (by decide +kernel) (by decide +kernel)
theorem wlin_law : GoodIn lw_tbl wsL_law := (goodIn_app (goodIn_app (goodIn_app (goodIn_app (goodIn_app (goodIn_app wlin_wsL_law_r1 (goodIn_app wlin_wsL_law_r2 (goodIn_app wlin_wsL_law_r3 (goodIn_app wlin_wsL_law_r4 (goodIn_app wlin_wsL_law_r5 (goodIn_app wlin_wsL_law_r6 (goodIn_app wlin_wsL_law_r7 (goodIn_app wlin_wsL_law_r8 (goodIn_app wlin_wsL_law_r9 (goodIn_app wlin_wsL_law_r10 (goodIn_app wlin_wsL_law_r11 (goodIn_app wlin_wsL_law_r12 (goodIn_app wlin_wsL_law_r13 (goodIn_app wlin_wsL_law_r14 (goodIn_app wlin_wsL_law_r15 (goodIn_app wlin_wsL_law_r16 (goodIn_app wlin_wsL_law_r17 (goodIn_app wlin_wsL_law_r18 (goodIn_app wlin_wsL_law_r19 (goodIn_app wlin_wsL_law_r20 (goodIn_app wlin_wsL_law_r21 (goodIn_app wlin_wsL_law_r22 (goodIn_app wlin_wsL_law_r23 (goodIn_app wlin_wsL_law_r24 wlin_wsL_law_r25)))))))))))))))))))))))) wlin_wsX20) wlin_wsX30) wlin_wsX10) wlin_wsX00) (fun _ h => absurd h List.not_mem_nil : GoodIn lw_tbl []))
theorem wsL_law_in : ∀ w ∈ wsL_law, w ∈ lw_tbl := fun w h => (wlin_law w h).1
theorem inlX0 : ∀ w ∈ wsX00, w ∈ wsL_law := fun _ h => List.mem_append_left _ (List.mem_append_right _ h)
theorem inX0 : ∀ w ∈ wsX00, w ∈ lw_tbl := fun w h => wsL_law_in w (inlX0 w h)
theorem inlX1 : ∀ w ∈ wsX10, w ∈ wsL_law := fun _ h => List.mem_append_left _ (List.mem_append_left _ (List.mem_append_right _ h))
theorem inX1 : ∀ w ∈ wsX10, w ∈ lw_tbl := fun w h => wsL_law_in w (inlX1 w h)
theorem inlX2 : ∀ w ∈ wsX20, w ∈ wsL_law := fun _ h => List.mem_append_left _ (List.mem_append_left _ (List.mem_append_left _ (List.mem_append_left _ (List.mem_append_right _ h))))
theorem inX2 : ∀ w ∈ wsX20, w ∈ lw_tbl := fun w h => wsL_law_in w (inlX2 w h)
theorem inlX3 : ∀ w ∈ wsX30, w ∈ wsL_law := fun _ h => List.mem_append_left _ (List.mem_append_left _ (List.mem_append_left _ (List.mem_append_right _ h)))
theorem inX3 : ∀ w ∈ wsX30, w ∈ lw_tbl := fun w h => wsL_law_in w (inlX3 w h)
theorem inJ6 : ∀ w ∈ wsJ60, w ∈ lw_tbl := by decide +kernel
theorem dX0_init_0 : decode cX0_init 0 = .ok (.aload_n 0, 1) := by decide +kernel
theorem dX0_init_1 : decode cX0_init 1 = .ok (.invokespecial 3, 3) := by decide +kernel
theorem dX0_init_4 : decode cX0_init 4 = .ok (.return_, 1) := by decide +kernel
theorem dX0_start_0 : decode cX0_start 0 = .ok (.aload_n 0, 1) := by decide +kernel
theorem dX0_start_1 : decode cX0_start 1 = .ok (.iload_n 1, 1) := by decide +kernel
theorem dX0_start_2 : decode cX0_start 2 = .ok (.putfield 9, 3) := by decide +kernel
theorem dX0_start_5 : decode cX0_start 5 = .ok (.aload_n 0, 1) := by decide +kernel
theorem dX0_start_6 : decode cX0_start 6 = .ok (.iload_n 2, 1) := by decide +kernel
theorem dX0_start_7 : decode cX0_start 7 = .ok (.putfield 15, 3) := by decide +kernel
theorem dX0_start_10 : decode cX0_start 10 = .ok (.aload_n 0, 1) := by decide +kernel
theorem dX0_start_11 : decode cX0_start 11 = .ok (.iconst 0, 1) := by decide +kernel
theorem dX0_start_12 : decode cX0_start 12 = .ok (.putfield 18, 3) := by decide +kernel
theorem dX0_start_15 : decode cX0_start 15 = .ok (.aload_n 0, 1) := by decide +kernel
theorem dX0_start_16 : decode cX0_start 16 = .ok (.iconst 0, 1) := by decide +kernel
theorem dX0_start_17 : decode cX0_start 17 = .ok (.putfield 21, 3) := by decide +kernel
theorem dX0_start_20 : decode cX0_start 20 = .ok (.return_, 1) := by decide +kernel
set_option maxRecDepth 20000 in
theorem ggX0_join_X2_putsIfEmpty : GoodIn wsX0_join wsX2_putsIfEmpty := goodIn_r _ [5] (by decide +kernel) (by decide +kernel)
set_option maxRecDepth 20000 in
theorem gX0_join_X2_putsIfEmpty_n24 : GoodIn wsX0_join (wsX2_putsIfEmpty) := ggX0_join_X2_putsIfEmpty
set_option maxRecDepth 20000 in
theorem ggX0_join_X2_putsIfThere : GoodIn wsX0_join wsX2_putsIfThere := goodIn_r _ [7] (by decide +kernel) (by decide +kernel)
end
section
set_option maxRecDepth 20000 in
theorem gX0_join_X2_putsIfThere_n28 : GoodIn wsX0_join (wsX2_putsIfThere) := ggX0_join_X2_putsIfThere
theorem dX0_join_0 : decode cX0_join 0 = .ok (.aload_n 0, 1) := by decide +kernel
theorem dX0_join_1 : decode cX0_join 1 = .ok (.dup, 1) := by decide +kernel
theorem dX0_join_2 : decode cX0_join 2 = .ok (.getfield 18, 3) := by decide +kernel
theorem dX0_join_5 : decode cX0_join 5 = .ok (.iload_n 1, 1) := by decide +kernel
theorem dX0_join_6 : decode cX0_join 6 = .ok (.iload_n 2, 1) := by decide +kernel
theorem dX0_join_7 : decode cX0_join 7 = .ok (.invokestatic 24, 3) := by decide +kernel
theorem dX0_join_10 : decode cX0_join 10 = .ok (.ior, 1) := by decide +kernel
theorem dX0_join_11 : decode cX0_join 11 = .ok (.putfield 18, 3) := by decide +kernel
theorem dX0_join_14 : decode cX0_join 14 = .ok (.aload_n 0, 1) := by decide +kernel
theorem dX0_join_15 : decode cX0_join 15 = .ok (.dup, 1) := by decide +kernel
theorem dX0_join_16 : decode cX0_join 16 = .ok (.getfield 21, 3) := by decide +kernel
theorem dX0_join_19 : decode cX0_join 19 = .ok (.iload_n 1, 1) := by decide +kernel
theorem dX0_join_20 : decode cX0_join 20 = .ok (.iload_n 2, 1) := by decide +kernel
theorem dX0_join_21 : decode cX0_join 21 = .ok (.invokestatic 28, 3) := by decide +kernel
theorem dX0_join_24 : decode cX0_join 24 = .ok (.ior, 1) := by decide +kernel
theorem dX0_join_25 : decode cX0_join 25 = .ok (.putfield 21, 3) := by decide +kernel
theorem dX0_join_28 : decode cX0_join 28 = .ok (.return_, 1) := by decide +kernel
theorem dX0_mustBe_0 : decode cX0_mustBe 0 = .ok (.aload_n 0, 1) := by decide +kernel
theorem dX0_mustBe_1 : decode cX0_mustBe 1 = .ok (.getfield 18, 3) := by decide +kernel
theorem dX0_mustBe_4 : decode cX0_mustBe 4 = .ok (.iload_n 1, 1) := by decide +kernel
theorem dX0_mustBe_5 : decode cX0_mustBe 5 = .ok (.iconst (-1), 1) := by decide +kernel
theorem dX0_mustBe_6 : decode cX0_mustBe 6 = .ok (.ixor, 1) := by decide +kernel
theorem dX0_mustBe_7 : decode cX0_mustBe 7 = .ok (.iand, 1) := by decide +kernel
theorem dX0_mustBe_8 : decode cX0_mustBe 8 = .ok (.aload_n 0, 1) := by decide +kernel
theorem dX0_mustBe_9 : decode cX0_mustBe 9 = .ok (.getfield 21, 3) := by decide +kernel
theorem dX0_mustBe_12 : decode cX0_mustBe 12 = .ok (.iload_n 1, 1) := by decide +kernel
theorem dX0_mustBe_13 : decode cX0_mustBe 13 = .ok (.iand, 1) := by decide +kernel
theorem dX0_mustBe_14 : decode cX0_mustBe 14 = .ok (.ior, 1) := by decide +kernel
theorem dX0_mustBe_15 : decode cX0_mustBe 15 = .ok (.aload_n 0, 1) := by decide +kernel
theorem dX0_mustBe_16 : decode cX0_mustBe 16 = .ok (.getfield 15, 3) := by decide +kernel
theorem dX0_mustBe_19 : decode cX0_mustBe 19 = .ok (.ior, 1) := by decide +kernel
theorem dX0_mustBe_20 : decode cX0_mustBe 20 = .ok (.istore_n 2, 1) := by decide +kernel
theorem dX0_mustBe_21 : decode cX0_mustBe 21 = .ok (.bipush 127, 2) := by decide +kernel
theorem dX0_mustBe_23 : decode cX0_mustBe 23 = .ok (.aload_n 0, 1) := by decide +kernel
theorem dX0_mustBe_24 : decode cX0_mustBe 24 = .ok (.getfield 9, 3) := by decide +kernel
theorem dX0_mustBe_27 : decode cX0_mustBe 27 = .ok (.ifCond .lt 12, 3) := by decide +kernel
theorem dX0_mustBe_30 : decode cX0_mustBe 30 = .ok (.iload_n 2, 1) := by decide +kernel
theorem dX0_mustBe_31 : decode cX0_mustBe 31 = .ok (.aload_n 0, 1) := by decide +kernel
theorem dX0_mustBe_32 : decode cX0_mustBe 32 = .ok (.getfield 9, 3) := by decide +kernel
theorem dX0_mustBe_35 : decode cX0_mustBe 35 = .ok (.ishl, 1) := by decide +kernel
theorem dX0_mustBe_36 : decode cX0_mustBe 36 = .ok (.goto 10, 3) := by decide +kernel
theorem dX0_mustBe_39 : decode cX0_mustBe 39 = .ok (.iload_n 2, 1) := by decide +kernel
theorem dX0_mustBe_40 : decode cX0_mustBe 40 = .ok (.aload_n 0, 1) := by decide +kernel
theorem dX0_mustBe_41 : decode cX0_mustBe 41 = .ok (.getfield 9, 3) := by decide +kernel
theorem dX0_mustBe_44 : decode cX0_mustBe 44 = .ok (.ineg, 1) := by decide +kernel
theorem dX0_mustBe_45 : decode cX0_mustBe 45 = .ok (.ishr, 1) := by decide +kernel
theorem dX0_mustBe_46 : decode cX0_mustBe 46 = .ok (.iand, 1) := by decide +kernel
theorem dX0_mustBe_47 : decode cX0_mustBe 47 = .ok (.ireturn, 1) := by decide +kernel
set_option maxRecDepth 20000 in
theorem ggX0_settle_X0_mustBe : GoodIn wsX0_settle wsX0_mustBe := goodIn_r _ [9, 10, 11, 12, 1, 17, 18, 19, 20, 21, 22, 23] (by decide +kernel) (by decide +kernel)
set_option maxRecDepth 20000 in
theorem gX0_settle_X0_mustBe : GoodIn wsX0_settle (wsV RX0 31 RX0 yX0_mustBe wsX0_mustBe) := goodIn_app (goodIn_of _ (by decide +kernel)) ggX0_settle_X0_mustBe
set_option maxRecDepth 20000 in
theorem ggX0_settle_X0_onlyWeek : GoodIn wsX0_settle wsX0_onlyWeek := goodIn_r _ [16, 5, 6, 7, 8, 9, 10, 11, 12, 1, 17, 18, 19, 20, 21, 22, 23] (by decide +kernel) (by decide +kernel)
set_option maxRecDepth 20000 in
theorem gX0_settle_X0_onlyWeek : GoodIn wsX0_settle (wsV RX0 41 RX0 yX0_onlyWeek wsX0_onlyWeek) := goodIn_app (goodIn_of _ (by decide +kernel)) ggX0_settle_X0_onlyWeek
theorem dX0_settle_0 : decode cX0_settle 0 = .ok (.aload_n 0, 1) := by decide +kernel
theorem dX0_settle_1 : decode cX0_settle 1 = .ok (.getfield 9, 3) := by decide +kernel
theorem dX0_settle_4 : decode cX0_settle 4 = .ok (.ifCond .ne 30, 3) := by decide +kernel
theorem dX0_settle_7 : decode cX0_settle 7 = .ok (.aload_n 0, 1) := by decide +kernel
theorem dX0_settle_8 : decode cX0_settle 8 = .ok (.aload_n 0, 1) := by decide +kernel
theorem dX0_settle_9 : decode cX0_settle 9 = .ok (.bipush 127, 2) := by decide +kernel
theorem dX0_settle_11 : decode cX0_settle 11 = .ok (.invokevirtual 31, 3) := by decide +kernel
theorem dX0_settle_14 : decode cX0_settle 14 = .ok (.putfield 35, 3) := by decide +kernel
theorem dX0_settle_17 : decode cX0_settle 17 = .ok (.aload_n 0, 1) := by decide +kernel
theorem dX0_settle_18 : decode cX0_settle 18 = .ok (.bipush 127, 2) := by decide +kernel
theorem dX0_settle_20 : decode cX0_settle 20 = .ok (.aload_n 0, 1) := by decide +kernel
theorem dX0_settle_21 : decode cX0_settle 21 = .ok (.iconst 0, 1) := by decide +kernel
theorem dX0_settle_22 : decode cX0_settle 22 = .ok (.invokevirtual 31, 3) := by decide +kernel
theorem dX0_settle_25 : decode cX0_settle 25 = .ok (.iconst (-1), 1) := by decide +kernel
theorem dX0_settle_26 : decode cX0_settle 26 = .ok (.ixor, 1) := by decide +kernel
theorem dX0_settle_27 : decode cX0_settle 27 = .ok (.iand, 1) := by decide +kernel
theorem dX0_settle_28 : decode cX0_settle 28 = .ok (.putfield 38, 3) := by decide +kernel
theorem dX0_settle_31 : decode cX0_settle 31 = .ok (.goto 24, 3) := by decide +kernel
theorem dX0_settle_34 : decode cX0_settle 34 = .ok (.aload_n 0, 1) := by decide +kernel
theorem dX0_settle_35 : decode cX0_settle 35 = .ok (.aload_n 0, 1) := by decide +kernel
theorem dX0_settle_36 : decode cX0_settle 36 = .ok (.invokevirtual 41, 3) := by decide +kernel
theorem dX0_settle_39 : decode cX0_settle 39 = .ok (.putfield 35, 3) := by decide +kernel
theorem dX0_settle_42 : decode cX0_settle 42 = .ok (.aload_n 0, 1) := by decide +kernel
theorem dX0_settle_43 : decode cX0_settle 43 = .ok (.bipush 127, 2) := by decide +kernel
theorem dX0_settle_45 : decode cX0_settle 45 = .ok (.aload_n 0, 1) := by decide +kernel
theorem dX0_settle_46 : decode cX0_settle 46 = .ok (.getfield 35, 3) := by decide +kernel
theorem dX0_settle_49 : decode cX0_settle 49 = .ok (.iconst (-1), 1) := by decide +kernel
theorem dX0_settle_50 : decode cX0_settle 50 = .ok (.ixor, 1) := by decide +kernel
theorem dX0_settle_51 : decode cX0_settle 51 = .ok (.iand, 1) := by decide +kernel
theorem dX0_settle_52 : decode cX0_settle 52 = .ok (.putfield 38, 3) := by decide +kernel
theorem dX0_settle_55 : decode cX0_settle 55 = .ok (.aload_n 0, 1) := by decide +kernel
theorem dX0_settle_56 : decode cX0_settle 56 = .ok (.bipush 127, 2) := by decide +kernel
theorem dX0_settle_58 : decode cX0_settle 58 = .ok (.aload_n 0, 1) := by decide +kernel
theorem dX0_settle_59 : decode cX0_settle 59 = .ok (.getfield 35, 3) := by decide +kernel
theorem dX0_settle_62 : decode cX0_settle 62 = .ok (.aload_n 0, 1) := by decide +kernel
theorem dX0_settle_63 : decode cX0_settle 63 = .ok (.getfield 38, 3) := by decide +kernel
theorem dX0_settle_66 : decode cX0_settle 66 = .ok (.ior, 1) := by decide +kernel
theorem dX0_settle_67 : decode cX0_settle 67 = .ok (.iconst (-1), 1) := by decide +kernel
theorem dX0_settle_68 : decode cX0_settle 68 = .ok (.ixor, 1) := by decide +kernel
theorem dX0_settle_69 : decode cX0_settle 69 = .ok (.iand, 1) := by decide +kernel
theorem dX0_settle_70 : decode cX0_settle 70 = .ok (.putfield 45, 3) := by decide +kernel
theorem dX0_settle_73 : decode cX0_settle 73 = .ok (.return_, 1) := by decide +kernel
set_option maxRecDepth 20000 in
theorem ggX0_onlyWeek_X0_mustBe : GoodIn wsX0_onlyWeek wsX0_mustBe := goodIn_r _ [5, 6, 7, 8, 9, 10, 11, 12, 13, 14, 15, 16] (by decide +kernel) (by decide +kernel)
set_option maxRecDepth 20000 in
theorem gX0_onlyWeek_X0_mustBe : GoodIn wsX0_onlyWeek (wsV RX0 31 RX0 yX0_mustBe wsX0_mustBe) := goodIn_app (goodIn_of _ (by decide +kernel)) ggX0_onlyWeek_X0_mustBe
theorem dX0_onlyWeek_0 : decode cX0_onlyWeek 0 = .ok (.iconst 0, 1) := by decide +kernel
theorem dX0_onlyWeek_1 : decode cX0_onlyWeek 1 = .ok (.istore_n 1, 1) := by decide +kernel
theorem dX0_onlyWeek_2 : decode cX0_onlyWeek 2 = .ok (.iconst 0, 1) := by decide +kernel
theorem dX0_onlyWeek_3 : decode cX0_onlyWeek 3 = .ok (.istore_n 2, 1) := by decide +kernel
theorem dX0_onlyWeek_4 : decode cX0_onlyWeek 4 = .ok (.iload_n 2, 1) := by decide +kernel
theorem dX0_onlyWeek_5 : decode cX0_onlyWeek 5 = .ok (.bipush 7, 2) := by decide +kernel
theorem dX0_onlyWeek_7 : decode cX0_onlyWeek 7 = .ok (.if_icmp .ge 15, 3) := by decide +kernel
theorem dX0_onlyWeek_10 : decode cX0_onlyWeek 10 = .ok (.aload_n 0, 1) := by decide +kernel
theorem dX0_onlyWeek_11 : decode cX0_onlyWeek 11 = .ok (.iload_n 1, 1) := by decide +kernel
theorem dX0_onlyWeek_12 : decode cX0_onlyWeek 12 = .ok (.invokevirtual 31, 3) := by decide +kernel
theorem dX0_onlyWeek_15 : decode cX0_onlyWeek 15 = .ok (.istore_n 1, 1) := by decide +kernel
theorem dX0_onlyWeek_16 : decode cX0_onlyWeek 16 = .ok (.iinc 2 1, 3) := by decide +kernel
theorem dX0_onlyWeek_19 : decode cX0_onlyWeek 19 = .ok (.goto (-15), 3) := by decide +kernel
theorem dX0_onlyWeek_22 : decode cX0_onlyWeek 22 = .ok (.iload_n 1, 1) := by decide +kernel
theorem dX0_onlyWeek_23 : decode cX0_onlyWeek 23 = .ok (.ireturn, 1) := by decide +kernel
set_option maxRecDepth 20000 in
theorem ggX0_agreeing_J6_bitCount_0f7a4 : GoodIn wsX0_agreeing wsJ6_bitCount_0f7a4 := goodIn_r _ [7, 8, 9, 10] (by decide +kernel) (by decide +kernel)
set_option maxRecDepth 20000 in
theorem gX0_agreeing_J6_bitCount_0f7a4 : GoodIn wsX0_agreeing (va_wsS RX0 48 yJ6_bitCount_0f7a4 wsJ6_bitCount_0f7a4) := goodIn_app (goodIn_of _ (by decide +kernel)) ggX0_agreeing_J6_bitCount_0f7a4
theorem dX0_agreeing_0 : decode cX0_agreeing 0 = .ok (.aload_n 0, 1) := by decide +kernel
theorem dX0_agreeing_1 : decode cX0_agreeing 1 = .ok (.getfield 45, 3) := by decide +kernel
theorem dX0_agreeing_4 : decode cX0_agreeing 4 = .ok (.ifCond .ne 20, 3) := by decide +kernel
theorem dX0_agreeing_7 : decode cX0_agreeing 7 = .ok (.iconst 1, 1) := by decide +kernel
theorem dX0_agreeing_8 : decode cX0_agreeing 8 = .ok (.aload_n 0, 1) := by decide +kernel
theorem dX0_agreeing_9 : decode cX0_agreeing 9 = .ok (.getfield 35, 3) := by decide +kernel
theorem dX0_agreeing_12 : decode cX0_agreeing 12 = .ok (.aload_n 0, 1) := by decide +kernel
theorem dX0_agreeing_13 : decode cX0_agreeing 13 = .ok (.getfield 38, 3) := by decide +kernel
theorem dX0_agreeing_16 : decode cX0_agreeing 16 = .ok (.iand, 1) := by decide +kernel
theorem dX0_agreeing_17 : decode cX0_agreeing 17 = .ok (.invokestatic 48, 3) := by decide +kernel
theorem dX0_agreeing_20 : decode cX0_agreeing 20 = .ok (.ishl, 1) := by decide +kernel
theorem dX0_agreeing_21 : decode cX0_agreeing 21 = .ok (.goto 4, 3) := by decide +kernel
theorem dX0_agreeing_24 : decode cX0_agreeing 24 = .ok (.iconst 0, 1) := by decide +kernel
theorem dX0_agreeing_25 : decode cX0_agreeing 25 = .ok (.ireturn, 1) := by decide +kernel
set_option maxRecDepth 20000 in
theorem ggX0_firstStuckDay_X2_bitOf : GoodIn wsX0_firstStuckDay wsX2_bitOf := goodIn_r _ [4] (by decide +kernel) (by decide +kernel)
set_option maxRecDepth 20000 in
theorem gX0_firstStuckDay_X2_bitOf_n53 : GoodIn wsX0_firstStuckDay (wsX2_bitOf) := ggX0_firstStuckDay_X2_bitOf
theorem dX0_firstStuckDay_0 : decode cX0_firstStuckDay 0 = .ok (.iconst 0, 1) := by decide +kernel
theorem dX0_firstStuckDay_1 : decode cX0_firstStuckDay 1 = .ok (.istore_n 1, 1) := by decide +kernel
theorem dX0_firstStuckDay_2 : decode cX0_firstStuckDay 2 = .ok (.iload_n 1, 1) := by decide +kernel
theorem dX0_firstStuckDay_3 : decode cX0_firstStuckDay 3 = .ok (.bipush 7, 2) := by decide +kernel
theorem dX0_firstStuckDay_5 : decode cX0_firstStuckDay 5 = .ok (.if_icmp .ge 23, 3) := by decide +kernel
theorem dX0_firstStuckDay_8 : decode cX0_firstStuckDay 8 = .ok (.aload_n 0, 1) := by decide +kernel
theorem dX0_firstStuckDay_9 : decode cX0_firstStuckDay 9 = .ok (.getfield 45, 3) := by decide +kernel
theorem dX0_firstStuckDay_12 : decode cX0_firstStuckDay 12 = .ok (.iload_n 1, 1) := by decide +kernel
theorem dX0_firstStuckDay_13 : decode cX0_firstStuckDay 13 = .ok (.invokestatic 53, 3) := by decide +kernel
theorem dX0_firstStuckDay_16 : decode cX0_firstStuckDay 16 = .ok (.iconst 1, 1) := by decide +kernel
theorem dX0_firstStuckDay_17 : decode cX0_firstStuckDay 17 = .ok (.if_icmp .ne 5, 3) := by decide +kernel
theorem dX0_firstStuckDay_20 : decode cX0_firstStuckDay 20 = .ok (.iload_n 1, 1) := by decide +kernel
theorem dX0_firstStuckDay_21 : decode cX0_firstStuckDay 21 = .ok (.ireturn, 1) := by decide +kernel
theorem dX0_firstStuckDay_22 : decode cX0_firstStuckDay 22 = .ok (.iinc 1 1, 3) := by decide +kernel
theorem dX0_firstStuckDay_25 : decode cX0_firstStuckDay 25 = .ok (.goto (-23), 3) := by decide +kernel
theorem dX0_firstStuckDay_28 : decode cX0_firstStuckDay 28 = .ok (.iconst (-1), 1) := by decide +kernel
theorem dX0_firstStuckDay_29 : decode cX0_firstStuckDay 29 = .ok (.ireturn, 1) := by decide +kernel
theorem dX0_leastWeek_0 : decode cX0_leastWeek 0 = .ok (.aload_n 0, 1) := by decide +kernel
theorem dX0_leastWeek_1 : decode cX0_leastWeek 1 = .ok (.getfield 45, 3) := by decide +kernel
theorem dX0_leastWeek_4 : decode cX0_leastWeek 4 = .ok (.ifCond .ne 15, 3) := by decide +kernel
theorem dX0_leastWeek_7 : decode cX0_leastWeek 7 = .ok (.bipush 127, 2) := by decide +kernel
theorem dX0_leastWeek_9 : decode cX0_leastWeek 9 = .ok (.aload_n 0, 1) := by decide +kernel
theorem dX0_leastWeek_10 : decode cX0_leastWeek 10 = .ok (.getfield 38, 3) := by decide +kernel
theorem dX0_leastWeek_13 : decode cX0_leastWeek 13 = .ok (.iconst (-1), 1) := by decide +kernel
theorem dX0_leastWeek_14 : decode cX0_leastWeek 14 = .ok (.ixor, 1) := by decide +kernel
theorem dX0_leastWeek_15 : decode cX0_leastWeek 15 = .ok (.iand, 1) := by decide +kernel
theorem dX0_leastWeek_16 : decode cX0_leastWeek 16 = .ok (.goto 4, 3) := by decide +kernel
theorem dX0_leastWeek_19 : decode cX0_leastWeek 19 = .ok (.iconst (-1), 1) := by decide +kernel
theorem dX0_leastWeek_20 : decode cX0_leastWeek 20 = .ok (.ireturn, 1) := by decide +kernel
set_option maxRecDepth 20000 in
theorem ggX0_sureOn_X2_bitOf : GoodIn wsX0_sureOn wsX2_bitOf := goodIn_r _ [6] (by decide +kernel) (by decide +kernel)
set_option maxRecDepth 20000 in
theorem gX0_sureOn_X2_bitOf_n53 : GoodIn wsX0_sureOn (wsX2_bitOf) := ggX0_sureOn_X2_bitOf
theorem dX0_sureOn_0 : decode cX0_sureOn 0 = .ok (.aload_n 0, 1) := by decide +kernel
theorem dX0_sureOn_1 : decode cX0_sureOn 1 = .ok (.getfield 45, 3) := by decide +kernel
theorem dX0_sureOn_4 : decode cX0_sureOn 4 = .ok (.ifCond .ne 20, 3) := by decide +kernel
theorem dX0_sureOn_7 : decode cX0_sureOn 7 = .ok (.aload_n 0, 1) := by decide +kernel
theorem dX0_sureOn_8 : decode cX0_sureOn 8 = .ok (.getfield 35, 3) := by decide +kernel
theorem dX0_sureOn_11 : decode cX0_sureOn 11 = .ok (.aload_n 0, 1) := by decide +kernel
theorem dX0_sureOn_12 : decode cX0_sureOn 12 = .ok (.getfield 38, 3) := by decide +kernel
theorem dX0_sureOn_15 : decode cX0_sureOn 15 = .ok (.iand, 1) := by decide +kernel
theorem dX0_sureOn_16 : decode cX0_sureOn 16 = .ok (.iload_n 1, 1) := by decide +kernel
theorem dX0_sureOn_17 : decode cX0_sureOn 17 = .ok (.invokestatic 53, 3) := by decide +kernel
theorem dX0_sureOn_20 : decode cX0_sureOn 20 = .ok (.iconst 1, 1) := by decide +kernel
theorem dX0_sureOn_21 : decode cX0_sureOn 21 = .ok (.if_icmp .ne 5, 3) := by decide +kernel
theorem dX0_sureOn_24 : decode cX0_sureOn 24 = .ok (.iconst (-1), 1) := by decide +kernel
theorem dX0_sureOn_25 : decode cX0_sureOn 25 = .ok (.ireturn, 1) := by decide +kernel
theorem dX0_sureOn_26 : decode cX0_sureOn 26 = .ok (.aload_n 0, 1) := by decide +kernel
theorem dX0_sureOn_27 : decode cX0_sureOn 27 = .ok (.getfield 35, 3) := by decide +kernel
theorem dX0_sureOn_30 : decode cX0_sureOn 30 = .ok (.iload_n 1, 1) := by decide +kernel
theorem dX0_sureOn_31 : decode cX0_sureOn 31 = .ok (.invokestatic 53, 3) := by decide +kernel
theorem dX0_sureOn_34 : decode cX0_sureOn 34 = .ok (.ireturn, 1) := by decide +kernel
theorem dX0_isSureOfAll_0 : decode cX0_isSureOfAll 0 = .ok (.aload_n 0, 1) := by decide +kernel
theorem dX0_isSureOfAll_1 : decode cX0_isSureOfAll 1 = .ok (.getfield 45, 3) := by decide +kernel
theorem dX0_isSureOfAll_4 : decode cX0_isSureOfAll 4 = .ok (.ifCond .ne 16, 3) := by decide +kernel
theorem dX0_isSureOfAll_7 : decode cX0_isSureOfAll 7 = .ok (.iload_n 1, 1) := by decide +kernel
theorem dX0_isSureOfAll_8 : decode cX0_isSureOfAll 8 = .ok (.aload_n 0, 1) := by decide +kernel
theorem dX0_isSureOfAll_9 : decode cX0_isSureOfAll 9 = .ok (.getfield 38, 3) := by decide +kernel
theorem dX0_isSureOfAll_12 : decode cX0_isSureOfAll 12 = .ok (.iand, 1) := by decide +kernel
theorem dX0_isSureOfAll_13 : decode cX0_isSureOfAll 13 = .ok (.ifCond .ne 7, 3) := by decide +kernel
theorem dX0_isSureOfAll_16 : decode cX0_isSureOfAll 16 = .ok (.iconst 1, 1) := by decide +kernel
theorem dX0_isSureOfAll_17 : decode cX0_isSureOfAll 17 = .ok (.goto 4, 3) := by decide +kernel
theorem dX0_isSureOfAll_20 : decode cX0_isSureOfAll 20 = .ok (.iconst 0, 1) := by decide +kernel
theorem dX0_isSureOfAll_21 : decode cX0_isSureOfAll 21 = .ok (.ireturn, 1) := by decide +kernel
theorem dX0_allows_0 : decode cX0_allows 0 = .ok (.aload_n 0, 1) := by decide +kernel
theorem dX0_allows_1 : decode cX0_allows 1 = .ok (.getfield 45, 3) := by decide +kernel
theorem dX0_allows_4 : decode cX0_allows 4 = .ok (.ifCond .ne 35, 3) := by decide +kernel
theorem dX0_allows_7 : decode cX0_allows 7 = .ok (.iload_n 1, 1) := by decide +kernel
theorem dX0_allows_8 : decode cX0_allows 8 = .ok (.iload_n 2, 1) := by decide +kernel
theorem dX0_allows_9 : decode cX0_allows 9 = .ok (.iand, 1) := by decide +kernel
theorem dX0_allows_10 : decode cX0_allows 10 = .ok (.ifCond .ne 29, 3) := by decide +kernel
theorem dX0_allows_13 : decode cX0_allows 13 = .ok (.iload_n 1, 1) := by decide +kernel
theorem dX0_allows_14 : decode cX0_allows 14 = .ok (.aload_n 0, 1) := by decide +kernel
theorem dX0_allows_15 : decode cX0_allows 15 = .ok (.getfield 35, 3) := by decide +kernel
theorem dX0_allows_18 : decode cX0_allows 18 = .ok (.iconst (-1), 1) := by decide +kernel
theorem dX0_allows_19 : decode cX0_allows 19 = .ok (.ixor, 1) := by decide +kernel
theorem dX0_allows_20 : decode cX0_allows 20 = .ok (.iand, 1) := by decide +kernel
theorem dX0_allows_21 : decode cX0_allows 21 = .ok (.ifCond .ne 18, 3) := by decide +kernel
theorem dX0_allows_24 : decode cX0_allows 24 = .ok (.iload_n 2, 1) := by decide +kernel
theorem dX0_allows_25 : decode cX0_allows 25 = .ok (.aload_n 0, 1) := by decide +kernel
theorem dX0_allows_26 : decode cX0_allows 26 = .ok (.getfield 38, 3) := by decide +kernel
theorem dX0_allows_29 : decode cX0_allows 29 = .ok (.iconst (-1), 1) := by decide +kernel
theorem dX0_allows_30 : decode cX0_allows 30 = .ok (.ixor, 1) := by decide +kernel
theorem dX0_allows_31 : decode cX0_allows 31 = .ok (.iand, 1) := by decide +kernel
theorem dX0_allows_32 : decode cX0_allows 32 = .ok (.ifCond .ne 7, 3) := by decide +kernel
theorem dX0_allows_35 : decode cX0_allows 35 = .ok (.iconst 1, 1) := by decide +kernel
theorem dX0_allows_36 : decode cX0_allows 36 = .ok (.goto 4, 3) := by decide +kernel
theorem dX0_allows_39 : decode cX0_allows 39 = .ok (.iconst 0, 1) := by decide +kernel
theorem dX0_allows_40 : decode cX0_allows 40 = .ok (.ireturn, 1) := by decide +kernel
theorem dX1_init_0 : decode cX1_init 0 = .ok (.aload_n 0, 1) := by decide +kernel
theorem dX1_init_1 : decode cX1_init 1 = .ok (.invokespecial 3, 3) := by decide +kernel
theorem dX1_init_4 : decode cX1_init 4 = .ok (.aload_n 0, 1) := by decide +kernel
theorem dX1_init_5 : decode cX1_init 5 = .ok (.bipush 6, 2) := by decide +kernel
theorem dX1_init_7 : decode cX1_init 7 = .ok (.newarray .int, 2) := by decide +kernel
theorem dX1_init_9 : decode cX1_init 9 = .ok (.putfield 9, 3) := by decide +kernel
theorem dX1_init_12 : decode cX1_init 12 = .ok (.aload_n 0, 1) := by decide +kernel
theorem dX1_init_13 : decode cX1_init 13 = .ok (.bipush 6, 2) := by decide +kernel
theorem dX1_init_15 : decode cX1_init 15 = .ok (.newarray .int, 2) := by decide +kernel
theorem dX1_init_17 : decode cX1_init 17 = .ok (.putfield 15, 3) := by decide +kernel
theorem dX1_init_20 : decode cX1_init 20 = .ok (.aload_n 0, 1) := by decide +kernel
theorem dX1_init_21 : decode cX1_init 21 = .ok (.bipush 6, 2) := by decide +kernel
theorem dX1_init_23 : decode cX1_init 23 = .ok (.newarray .int, 2) := by decide +kernel
theorem dX1_init_25 : decode cX1_init 25 = .ok (.putfield 18, 3) := by decide +kernel
theorem dX1_init_28 : decode cX1_init 28 = .ok (.aload_n 0, 1) := by decide +kernel
theorem dX1_init_29 : decode cX1_init 29 = .ok (.bipush 9, 2) := by decide +kernel
theorem dX1_init_31 : decode cX1_init 31 = .ok (.newarray .int, 2) := by decide +kernel
theorem dX1_init_33 : decode cX1_init 33 = .ok (.putfield 21, 3) := by decide +kernel
theorem dX1_init_36 : decode cX1_init 36 = .ok (.aload_n 0, 1) := by decide +kernel
theorem dX1_init_37 : decode cX1_init 37 = .ok (.bipush 9, 2) := by decide +kernel
theorem dX1_init_39 : decode cX1_init 39 = .ok (.newarray .int, 2) := by decide +kernel
theorem dX1_init_41 : decode cX1_init 41 = .ok (.putfield 24, 3) := by decide +kernel
theorem dX1_init_44 : decode cX1_init 44 = .ok (.aload_n 0, 1) := by decide +kernel
theorem dX1_init_45 : decode cX1_init 45 = .ok (.bipush 9, 2) := by decide +kernel
theorem dX1_init_47 : decode cX1_init 47 = .ok (.newarray .int, 2) := by decide +kernel
theorem dX1_init_49 : decode cX1_init 49 = .ok (.putfield 27, 3) := by decide +kernel
theorem dX1_init_52 : decode cX1_init 52 = .ok (.return_, 1) := by decide +kernel
set_option maxRecDepth 20000 in
theorem ggX1_clear_X1_clearFound : GoodIn wsX1_clear wsX1_clearFound := goodIn_r _ [8, 9, 10, 11, 12, 13, 14, 15, 16, 17, 18, 19, 20] (by decide +kernel) (by decide +kernel)
set_option maxRecDepth 20000 in
theorem gX1_clear_X1_clearFound : GoodIn wsX1_clear (wsV RX1 37 RX1 yX1_clearFound wsX1_clearFound) := goodIn_app (goodIn_of _ (by decide +kernel)) ggX1_clear_X1_clearFound
theorem dX1_clear_0 : decode cX1_clear 0 = .ok (.aload_n 0, 1) := by decide +kernel
theorem dX1_clear_1 : decode cX1_clear 1 = .ok (.iload_n 1, 1) := by decide +kernel
theorem dX1_clear_2 : decode cX1_clear 2 = .ok (.putfield 30, 3) := by decide +kernel
theorem dX1_clear_5 : decode cX1_clear 5 = .ok (.aload_n 0, 1) := by decide +kernel
theorem dX1_clear_6 : decode cX1_clear 6 = .ok (.iconst 0, 1) := by decide +kernel
theorem dX1_clear_7 : decode cX1_clear 7 = .ok (.putfield 34, 3) := by decide +kernel
theorem dX1_clear_10 : decode cX1_clear 10 = .ok (.iconst 0, 1) := by decide +kernel
theorem dX1_clear_11 : decode cX1_clear 11 = .ok (.istore_n 2, 1) := by decide +kernel
theorem dX1_clear_12 : decode cX1_clear 12 = .ok (.iload_n 2, 1) := by decide +kernel
theorem dX1_clear_13 : decode cX1_clear 13 = .ok (.bipush 9, 2) := by decide +kernel
theorem dX1_clear_15 : decode cX1_clear 15 = .ok (.if_icmp .ge 16, 3) := by decide +kernel
theorem dX1_clear_18 : decode cX1_clear 18 = .ok (.aload_n 0, 1) := by decide +kernel
theorem dX1_clear_19 : decode cX1_clear 19 = .ok (.getfield 21, 3) := by decide +kernel
theorem dX1_clear_22 : decode cX1_clear 22 = .ok (.iload_n 2, 1) := by decide +kernel
theorem dX1_clear_23 : decode cX1_clear 23 = .ok (.iconst 0, 1) := by decide +kernel
theorem dX1_clear_24 : decode cX1_clear 24 = .ok (.iastore, 1) := by decide +kernel
theorem dX1_clear_25 : decode cX1_clear 25 = .ok (.iinc 2 1, 3) := by decide +kernel
theorem dX1_clear_28 : decode cX1_clear 28 = .ok (.goto (-16), 3) := by decide +kernel
theorem dX1_clear_31 : decode cX1_clear 31 = .ok (.aload_n 0, 1) := by decide +kernel
theorem dX1_clear_32 : decode cX1_clear 32 = .ok (.invokevirtual 37, 3) := by decide +kernel
theorem dX1_clear_35 : decode cX1_clear 35 = .ok (.return_, 1) := by decide +kernel
theorem dX1_clearFound_0 : decode cX1_clearFound 0 = .ok (.aload_n 0, 1) := by decide +kernel
theorem dX1_clearFound_1 : decode cX1_clearFound 1 = .ok (.iconst 0, 1) := by decide +kernel
theorem dX1_clearFound_2 : decode cX1_clearFound 2 = .ok (.putfield 40, 3) := by decide +kernel
theorem dX1_clearFound_5 : decode cX1_clearFound 5 = .ok (.iconst 0, 1) := by decide +kernel
theorem dX1_clearFound_6 : decode cX1_clearFound 6 = .ok (.istore_n 1, 1) := by decide +kernel
theorem dX1_clearFound_7 : decode cX1_clearFound 7 = .ok (.iload_n 1, 1) := by decide +kernel
theorem dX1_clearFound_8 : decode cX1_clearFound 8 = .ok (.bipush 9, 2) := by decide +kernel
theorem dX1_clearFound_10 : decode cX1_clearFound 10 = .ok (.if_icmp .ge 23, 3) := by decide +kernel
theorem dX1_clearFound_13 : decode cX1_clearFound 13 = .ok (.aload_n 0, 1) := by decide +kernel
theorem dX1_clearFound_14 : decode cX1_clearFound 14 = .ok (.getfield 24, 3) := by decide +kernel
theorem dX1_clearFound_17 : decode cX1_clearFound 17 = .ok (.iload_n 1, 1) := by decide +kernel
theorem dX1_clearFound_18 : decode cX1_clearFound 18 = .ok (.iconst 0, 1) := by decide +kernel
theorem dX1_clearFound_19 : decode cX1_clearFound 19 = .ok (.iastore, 1) := by decide +kernel
theorem dX1_clearFound_20 : decode cX1_clearFound 20 = .ok (.aload_n 0, 1) := by decide +kernel
theorem dX1_clearFound_21 : decode cX1_clearFound 21 = .ok (.getfield 27, 3) := by decide +kernel
theorem dX1_clearFound_24 : decode cX1_clearFound 24 = .ok (.iload_n 1, 1) := by decide +kernel
theorem dX1_clearFound_25 : decode cX1_clearFound 25 = .ok (.iconst 0, 1) := by decide +kernel
theorem dX1_clearFound_26 : decode cX1_clearFound 26 = .ok (.iastore, 1) := by decide +kernel
theorem dX1_clearFound_27 : decode cX1_clearFound 27 = .ok (.iinc 1 1, 3) := by decide +kernel
theorem dX1_clearFound_30 : decode cX1_clearFound 30 = .ok (.goto (-23), 3) := by decide +kernel
theorem dX1_clearFound_33 : decode cX1_clearFound 33 = .ok (.return_, 1) := by decide +kernel
theorem dX1_takeFrom_0 : decode cX1_takeFrom 0 = .ok (.aload_n 0, 1) := by decide +kernel
theorem dX1_takeFrom_1 : decode cX1_takeFrom 1 = .ok (.aload_n 1, 1) := by decide +kernel
theorem dX1_takeFrom_2 : decode cX1_takeFrom 2 = .ok (.getfield 30, 3) := by decide +kernel
theorem dX1_takeFrom_5 : decode cX1_takeFrom 5 = .ok (.putfield 30, 3) := by decide +kernel
theorem dX1_takeFrom_8 : decode cX1_takeFrom 8 = .ok (.aload_n 0, 1) := by decide +kernel
theorem dX1_takeFrom_9 : decode cX1_takeFrom 9 = .ok (.aload_n 1, 1) := by decide +kernel
theorem dX1_takeFrom_10 : decode cX1_takeFrom 10 = .ok (.getfield 34, 3) := by decide +kernel
theorem dX1_takeFrom_13 : decode cX1_takeFrom 13 = .ok (.putfield 34, 3) := by decide +kernel
theorem dX1_takeFrom_16 : decode cX1_takeFrom 16 = .ok (.aload_n 0, 1) := by decide +kernel
theorem dX1_takeFrom_17 : decode cX1_takeFrom 17 = .ok (.aload_n 1, 1) := by decide +kernel
theorem dX1_takeFrom_18 : decode cX1_takeFrom 18 = .ok (.getfield 40, 3) := by decide +kernel
theorem dX1_takeFrom_21 : decode cX1_takeFrom 21 = .ok (.putfield 40, 3) := by decide +kernel
theorem dX1_takeFrom_24 : decode cX1_takeFrom 24 = .ok (.iconst 0, 1) := by decide +kernel
theorem dX1_takeFrom_25 : decode cX1_takeFrom 25 = .ok (.istore_n 2, 1) := by decide +kernel
theorem dX1_takeFrom_26 : decode cX1_takeFrom 26 = .ok (.iload_n 2, 1) := by decide +kernel
theorem dX1_takeFrom_27 : decode cX1_takeFrom 27 = .ok (.bipush 6, 2) := by decide +kernel
theorem dX1_takeFrom_29 : decode cX1_takeFrom 29 = .ok (.if_icmp .ge 45, 3) := by decide +kernel
theorem dX1_takeFrom_32 : decode cX1_takeFrom 32 = .ok (.aload_n 0, 1) := by decide +kernel
theorem dX1_takeFrom_33 : decode cX1_takeFrom 33 = .ok (.getfield 9, 3) := by decide +kernel
theorem dX1_takeFrom_36 : decode cX1_takeFrom 36 = .ok (.iload_n 2, 1) := by decide +kernel
theorem dX1_takeFrom_37 : decode cX1_takeFrom 37 = .ok (.aload_n 1, 1) := by decide +kernel
theorem dX1_takeFrom_38 : decode cX1_takeFrom 38 = .ok (.getfield 9, 3) := by decide +kernel
theorem dX1_takeFrom_41 : decode cX1_takeFrom 41 = .ok (.iload_n 2, 1) := by decide +kernel
theorem dX1_takeFrom_42 : decode cX1_takeFrom 42 = .ok (.iaload, 1) := by decide +kernel
theorem dX1_takeFrom_43 : decode cX1_takeFrom 43 = .ok (.iastore, 1) := by decide +kernel
theorem dX1_takeFrom_44 : decode cX1_takeFrom 44 = .ok (.aload_n 0, 1) := by decide +kernel
theorem dX1_takeFrom_45 : decode cX1_takeFrom 45 = .ok (.getfield 15, 3) := by decide +kernel
theorem dX1_takeFrom_48 : decode cX1_takeFrom 48 = .ok (.iload_n 2, 1) := by decide +kernel
theorem dX1_takeFrom_49 : decode cX1_takeFrom 49 = .ok (.aload_n 1, 1) := by decide +kernel
theorem dX1_takeFrom_50 : decode cX1_takeFrom 50 = .ok (.getfield 15, 3) := by decide +kernel
theorem dX1_takeFrom_53 : decode cX1_takeFrom 53 = .ok (.iload_n 2, 1) := by decide +kernel
theorem dX1_takeFrom_54 : decode cX1_takeFrom 54 = .ok (.iaload, 1) := by decide +kernel
theorem dX1_takeFrom_55 : decode cX1_takeFrom 55 = .ok (.iastore, 1) := by decide +kernel
theorem dX1_takeFrom_56 : decode cX1_takeFrom 56 = .ok (.aload_n 0, 1) := by decide +kernel
theorem dX1_takeFrom_57 : decode cX1_takeFrom 57 = .ok (.getfield 18, 3) := by decide +kernel
theorem dX1_takeFrom_60 : decode cX1_takeFrom 60 = .ok (.iload_n 2, 1) := by decide +kernel
theorem dX1_takeFrom_61 : decode cX1_takeFrom 61 = .ok (.aload_n 1, 1) := by decide +kernel
theorem dX1_takeFrom_62 : decode cX1_takeFrom 62 = .ok (.getfield 18, 3) := by decide +kernel
theorem dX1_takeFrom_65 : decode cX1_takeFrom 65 = .ok (.iload_n 2, 1) := by decide +kernel
theorem dX1_takeFrom_66 : decode cX1_takeFrom 66 = .ok (.iaload, 1) := by decide +kernel
theorem dX1_takeFrom_67 : decode cX1_takeFrom 67 = .ok (.iastore, 1) := by decide +kernel
theorem dX1_takeFrom_68 : decode cX1_takeFrom 68 = .ok (.iinc 2 1, 3) := by decide +kernel
theorem dX1_takeFrom_71 : decode cX1_takeFrom 71 = .ok (.goto (-45), 3) := by decide +kernel
theorem dX1_takeFrom_74 : decode cX1_takeFrom 74 = .ok (.iconst 0, 1) := by decide +kernel
theorem dX1_takeFrom_75 : decode cX1_takeFrom 75 = .ok (.istore_n 2, 1) := by decide +kernel
theorem dX1_takeFrom_76 : decode cX1_takeFrom 76 = .ok (.iload_n 2, 1) := by decide +kernel
theorem dX1_takeFrom_77 : decode cX1_takeFrom 77 = .ok (.bipush 9, 2) := by decide +kernel
theorem dX1_takeFrom_79 : decode cX1_takeFrom 79 = .ok (.if_icmp .ge 45, 3) := by decide +kernel
theorem dX1_takeFrom_82 : decode cX1_takeFrom 82 = .ok (.aload_n 0, 1) := by decide +kernel
theorem dX1_takeFrom_83 : decode cX1_takeFrom 83 = .ok (.getfield 21, 3) := by decide +kernel
theorem dX1_takeFrom_86 : decode cX1_takeFrom 86 = .ok (.iload_n 2, 1) := by decide +kernel
theorem dX1_takeFrom_87 : decode cX1_takeFrom 87 = .ok (.aload_n 1, 1) := by decide +kernel
theorem dX1_takeFrom_88 : decode cX1_takeFrom 88 = .ok (.getfield 21, 3) := by decide +kernel
theorem dX1_takeFrom_91 : decode cX1_takeFrom 91 = .ok (.iload_n 2, 1) := by decide +kernel
theorem dX1_takeFrom_92 : decode cX1_takeFrom 92 = .ok (.iaload, 1) := by decide +kernel
theorem dX1_takeFrom_93 : decode cX1_takeFrom 93 = .ok (.iastore, 1) := by decide +kernel
theorem dX1_takeFrom_94 : decode cX1_takeFrom 94 = .ok (.aload_n 0, 1) := by decide +kernel
theorem dX1_takeFrom_95 : decode cX1_takeFrom 95 = .ok (.getfield 24, 3) := by decide +kernel
theorem dX1_takeFrom_98 : decode cX1_takeFrom 98 = .ok (.iload_n 2, 1) := by decide +kernel
theorem dX1_takeFrom_99 : decode cX1_takeFrom 99 = .ok (.aload_n 1, 1) := by decide +kernel
theorem dX1_takeFrom_100 : decode cX1_takeFrom 100 = .ok (.getfield 24, 3) := by decide +kernel
theorem dX1_takeFrom_103 : decode cX1_takeFrom 103 = .ok (.iload_n 2, 1) := by decide +kernel
theorem dX1_takeFrom_104 : decode cX1_takeFrom 104 = .ok (.iaload, 1) := by decide +kernel
theorem dX1_takeFrom_105 : decode cX1_takeFrom 105 = .ok (.iastore, 1) := by decide +kernel
theorem dX1_takeFrom_106 : decode cX1_takeFrom 106 = .ok (.aload_n 0, 1) := by decide +kernel
theorem dX1_takeFrom_107 : decode cX1_takeFrom 107 = .ok (.getfield 27, 3) := by decide +kernel
theorem dX1_takeFrom_110 : decode cX1_takeFrom 110 = .ok (.iload_n 2, 1) := by decide +kernel
theorem dX1_takeFrom_111 : decode cX1_takeFrom 111 = .ok (.aload_n 1, 1) := by decide +kernel
theorem dX1_takeFrom_112 : decode cX1_takeFrom 112 = .ok (.getfield 27, 3) := by decide +kernel
theorem dX1_takeFrom_115 : decode cX1_takeFrom 115 = .ok (.iload_n 2, 1) := by decide +kernel
theorem dX1_takeFrom_116 : decode cX1_takeFrom 116 = .ok (.iaload, 1) := by decide +kernel
theorem dX1_takeFrom_117 : decode cX1_takeFrom 117 = .ok (.iastore, 1) := by decide +kernel
theorem dX1_takeFrom_118 : decode cX1_takeFrom 118 = .ok (.iinc 2 1, 3) := by decide +kernel
theorem dX1_takeFrom_121 : decode cX1_takeFrom 121 = .ok (.goto (-45), 3) := by decide +kernel
theorem dX1_takeFrom_124 : decode cX1_takeFrom 124 = .ok (.return_, 1) := by decide +kernel
theorem dX1_peopleOf_0 : decode cX1_peopleOf 0 = .ok (.iconst 0, 1) := by decide +kernel
theorem dX1_peopleOf_1 : decode cX1_peopleOf 1 = .ok (.istore_n 2, 1) := by decide +kernel
theorem dX1_peopleOf_2 : decode cX1_peopleOf 2 = .ok (.iconst 0, 1) := by decide +kernel
theorem dX1_peopleOf_3 : decode cX1_peopleOf 3 = .ok (.istore_n 3, 1) := by decide +kernel
theorem dX1_peopleOf_4 : decode cX1_peopleOf 4 = .ok (.iload_n 3, 1) := by decide +kernel
theorem dX1_peopleOf_5 : decode cX1_peopleOf 5 = .ok (.aload_n 0, 1) := by decide +kernel
theorem dX1_peopleOf_6 : decode cX1_peopleOf 6 = .ok (.getfield 34, 3) := by decide +kernel
theorem dX1_peopleOf_9 : decode cX1_peopleOf 9 = .ok (.if_icmp .ge 25, 3) := by decide +kernel
theorem dX1_peopleOf_12 : decode cX1_peopleOf 12 = .ok (.aload_n 0, 1) := by decide +kernel
theorem dX1_peopleOf_13 : decode cX1_peopleOf 13 = .ok (.getfield 15, 3) := by decide +kernel
theorem dX1_peopleOf_16 : decode cX1_peopleOf 16 = .ok (.iload_n 3, 1) := by decide +kernel
theorem dX1_peopleOf_17 : decode cX1_peopleOf 17 = .ok (.iaload, 1) := by decide +kernel
theorem dX1_peopleOf_18 : decode cX1_peopleOf 18 = .ok (.iload_n 1, 1) := by decide +kernel
theorem dX1_peopleOf_19 : decode cX1_peopleOf 19 = .ok (.if_icmp .ne 9, 3) := by decide +kernel
theorem dX1_peopleOf_22 : decode cX1_peopleOf 22 = .ok (.iload_n 2, 1) := by decide +kernel
theorem dX1_peopleOf_23 : decode cX1_peopleOf 23 = .ok (.iconst 1, 1) := by decide +kernel
theorem dX1_peopleOf_24 : decode cX1_peopleOf 24 = .ok (.iload_n 3, 1) := by decide +kernel
theorem dX1_peopleOf_25 : decode cX1_peopleOf 25 = .ok (.ishl, 1) := by decide +kernel
theorem dX1_peopleOf_26 : decode cX1_peopleOf 26 = .ok (.ior, 1) := by decide +kernel
theorem dX1_peopleOf_27 : decode cX1_peopleOf 27 = .ok (.istore_n 2, 1) := by decide +kernel
theorem dX1_peopleOf_28 : decode cX1_peopleOf 28 = .ok (.iinc 3 1, 3) := by decide +kernel
theorem dX1_peopleOf_31 : decode cX1_peopleOf 31 = .ok (.goto (-27), 3) := by decide +kernel
theorem dX1_peopleOf_34 : decode cX1_peopleOf 34 = .ok (.iload_n 2, 1) := by decide +kernel
theorem dX1_peopleOf_35 : decode cX1_peopleOf 35 = .ok (.ireturn, 1) := by decide +kernel
set_option maxRecDepth 20000 in
theorem ggX1_thingsLaid_J6_bitCount_0f7a4 : GoodIn wsX1_thingsLaid wsJ6_bitCount_0f7a4 := goodIn_r _ [5, 6, 7, 8] (by decide +kernel) (by decide +kernel)
set_option maxRecDepth 20000 in
theorem gX1_thingsLaid_J6_bitCount_0f7a4 : GoodIn wsX1_thingsLaid (va_wsS RX1 43 yJ6_bitCount_0f7a4 wsJ6_bitCount_0f7a4) := goodIn_app (goodIn_of _ (by decide +kernel)) ggX1_thingsLaid_J6_bitCount_0f7a4
theorem dX1_thingsLaid_0 : decode cX1_thingsLaid 0 = .ok (.iconst 0, 1) := by decide +kernel
theorem dX1_thingsLaid_1 : decode cX1_thingsLaid 1 = .ok (.istore_n 1, 1) := by decide +kernel
theorem dX1_thingsLaid_2 : decode cX1_thingsLaid 2 = .ok (.iconst 0, 1) := by decide +kernel
theorem dX1_thingsLaid_3 : decode cX1_thingsLaid 3 = .ok (.istore_n 2, 1) := by decide +kernel
theorem dX1_thingsLaid_4 : decode cX1_thingsLaid 4 = .ok (.iload_n 2, 1) := by decide +kernel
theorem dX1_thingsLaid_5 : decode cX1_thingsLaid 5 = .ok (.bipush 9, 2) := by decide +kernel
theorem dX1_thingsLaid_7 : decode cX1_thingsLaid 7 = .ok (.if_icmp .ge 21, 3) := by decide +kernel
theorem dX1_thingsLaid_10 : decode cX1_thingsLaid 10 = .ok (.iload_n 1, 1) := by decide +kernel
theorem dX1_thingsLaid_11 : decode cX1_thingsLaid 11 = .ok (.aload_n 0, 1) := by decide +kernel
theorem dX1_thingsLaid_12 : decode cX1_thingsLaid 12 = .ok (.getfield 21, 3) := by decide +kernel
theorem dX1_thingsLaid_15 : decode cX1_thingsLaid 15 = .ok (.iload_n 2, 1) := by decide +kernel
theorem dX1_thingsLaid_16 : decode cX1_thingsLaid 16 = .ok (.iaload, 1) := by decide +kernel
theorem dX1_thingsLaid_17 : decode cX1_thingsLaid 17 = .ok (.invokestatic 43, 3) := by decide +kernel
theorem dX1_thingsLaid_20 : decode cX1_thingsLaid 20 = .ok (.iadd, 1) := by decide +kernel
theorem dX1_thingsLaid_21 : decode cX1_thingsLaid 21 = .ok (.istore_n 1, 1) := by decide +kernel
theorem dX1_thingsLaid_22 : decode cX1_thingsLaid 22 = .ok (.iinc 2 1, 3) := by decide +kernel
theorem dX1_thingsLaid_25 : decode cX1_thingsLaid 25 = .ok (.goto (-21), 3) := by decide +kernel
theorem dX1_thingsLaid_28 : decode cX1_thingsLaid 28 = .ok (.iload_n 1, 1) := by decide +kernel
theorem dX1_thingsLaid_29 : decode cX1_thingsLaid 29 = .ok (.ireturn, 1) := by decide +kernel
set_option maxRecDepth 20000 in
theorem ggX2_init_X1_init : GoodIn wsX2_init wsX1_init := goodIn_r _ [17, 18, 2, 3, 4, 19, 20, 21, 22, 23, 24, 38, 39, 40, 41, 42, 43, 44, 45, 46] (by decide +kernel) (by decide +kernel)
set_option maxRecDepth 20000 in
theorem gX2_init_X1_init_n18 : GoodIn wsX2_init (wsX1_init) := ggX2_init_X1_init
set_option maxRecDepth 20000 in
theorem ggX2_init_X0_init : GoodIn wsX2_init wsX0_init := goodIn_r _ [26, 27, 2, 3] (by decide +kernel) (by decide +kernel)
set_option maxRecDepth 20000 in
theorem gX2_init_X0_init_n28 : GoodIn wsX2_init (wsX0_init) := ggX2_init_X0_init
theorem dX2_init_0 : decode cX2_init 0 = .ok (.aload_n 0, 1) := by decide +kernel
theorem dX2_init_1 : decode cX2_init 1 = .ok (.invokespecial 3, 3) := by decide +kernel
theorem dX2_init_4 : decode cX2_init 4 = .ok (.aload_n 0, 1) := by decide +kernel
theorem dX2_init_5 : decode cX2_init 5 = .ok (.bipush 12, 2) := by decide +kernel
theorem dX2_init_7 : decode cX2_init 7 = .ok (.newarray .int, 2) := by decide +kernel
theorem dX2_init_9 : decode cX2_init 9 = .ok (.putfield 9, 3) := by decide +kernel
theorem dX2_init_12 : decode cX2_init 12 = .ok (.aload_n 0, 1) := by decide +kernel
theorem dX2_init_13 : decode cX2_init 13 = .ok (.bipush 9, 2) := by decide +kernel
theorem dX2_init_15 : decode cX2_init 15 = .ok (.newarray .int, 2) := by decide +kernel
theorem dX2_init_17 : decode cX2_init 17 = .ok (.putfield 13, 3) := by decide +kernel
theorem dX2_init_20 : decode cX2_init 20 = .ok (.aload_n 0, 1) := by decide +kernel
theorem dX2_init_21 : decode cX2_init 21 = .ok (.new 16, 3) := by decide +kernel
theorem dX2_init_24 : decode cX2_init 24 = .ok (.dup, 1) := by decide +kernel
theorem dX2_init_25 : decode cX2_init 25 = .ok (.invokespecial 18, 3) := by decide +kernel
theorem dX2_init_28 : decode cX2_init 28 = .ok (.putfield 19, 3) := by decide +kernel
theorem dX2_init_31 : decode cX2_init 31 = .ok (.aload_n 0, 1) := by decide +kernel
theorem dX2_init_32 : decode cX2_init 32 = .ok (.new 16, 3) := by decide +kernel
theorem dX2_init_35 : decode cX2_init 35 = .ok (.dup, 1) := by decide +kernel
theorem dX2_init_36 : decode cX2_init 36 = .ok (.invokespecial 18, 3) := by decide +kernel
theorem dX2_init_39 : decode cX2_init 39 = .ok (.putfield 23, 3) := by decide +kernel
theorem dX2_init_42 : decode cX2_init 42 = .ok (.aload_n 0, 1) := by decide +kernel
theorem dX2_init_43 : decode cX2_init 43 = .ok (.new 26, 3) := by decide +kernel
theorem dX2_init_46 : decode cX2_init 46 = .ok (.dup, 1) := by decide +kernel
theorem dX2_init_47 : decode cX2_init 47 = .ok (.invokespecial 28, 3) := by decide +kernel
theorem dX2_init_50 : decode cX2_init 50 = .ok (.putfield 29, 3) := by decide +kernel
theorem dX2_init_53 : decode cX2_init 53 = .ok (.return_, 1) := by decide +kernel
theorem dX2_letter_0 : decode cX2_letter 0 = .ok (.iload_n 1, 1) := by decide +kernel
theorem dX2_letter_1 : decode cX2_letter 1 = .ok (.bipush 32, 2) := by decide +kernel
theorem dX2_letter_3 : decode cX2_letter 3 = .ok (.if_icmp .lt 9, 3) := by decide +kernel
theorem dX2_letter_6 : decode cX2_letter 6 = .ok (.iload_n 1, 1) := by decide +kernel
theorem dX2_letter_7 : decode cX2_letter 7 = .ok (.bipush 126, 2) := by decide +kernel
theorem dX2_letter_9 : decode cX2_letter 9 = .ok (.if_icmp .le 6, 3) := by decide +kernel
theorem dX2_letter_12 : decode cX2_letter 12 = .ok (.bipush (-102), 2) := by decide +kernel
theorem dX2_letter_14 : decode cX2_letter 14 = .ok (.ireturn, 1) := by decide +kernel
theorem dX2_letter_15 : decode cX2_letter 15 = .ok (.aload_n 0, 1) := by decide +kernel
theorem dX2_letter_16 : decode cX2_letter 16 = .ok (.getfield 33, 3) := by decide +kernel
theorem dX2_letter_19 : decode cX2_letter 19 = .ok (.aload_n 0, 1) := by decide +kernel
theorem dX2_letter_20 : decode cX2_letter 20 = .ok (.getfield 9, 3) := by decide +kernel
theorem dX2_letter_23 : decode cX2_letter 23 = .ok (.arraylength, 1) := by decide +kernel
theorem dX2_letter_24 : decode cX2_letter 24 = .ok (.if_icmp .lt 6, 3) := by decide +kernel
theorem dX2_letter_27 : decode cX2_letter 27 = .ok (.bipush (-104), 2) := by decide +kernel
theorem dX2_letter_29 : decode cX2_letter 29 = .ok (.ireturn, 1) := by decide +kernel
theorem dX2_letter_30 : decode cX2_letter 30 = .ok (.aload_n 0, 1) := by decide +kernel
theorem dX2_letter_31 : decode cX2_letter 31 = .ok (.getfield 9, 3) := by decide +kernel
theorem dX2_letter_34 : decode cX2_letter 34 = .ok (.aload_n 0, 1) := by decide +kernel
theorem dX2_letter_35 : decode cX2_letter 35 = .ok (.getfield 33, 3) := by decide +kernel
theorem dX2_letter_38 : decode cX2_letter 38 = .ok (.iload_n 1, 1) := by decide +kernel
theorem dX2_letter_39 : decode cX2_letter 39 = .ok (.iastore, 1) := by decide +kernel
theorem dX2_letter_40 : decode cX2_letter 40 = .ok (.aload_n 0, 1) := by decide +kernel
theorem dX2_letter_41 : decode cX2_letter 41 = .ok (.dup, 1) := by decide +kernel
theorem dX2_letter_42 : decode cX2_letter 42 = .ok (.getfield 33, 3) := by decide +kernel
theorem dX2_letter_45 : decode cX2_letter 45 = .ok (.iconst 1, 1) := by decide +kernel
theorem dX2_letter_46 : decode cX2_letter 46 = .ok (.iadd, 1) := by decide +kernel
theorem dX2_letter_47 : decode cX2_letter 47 = .ok (.putfield 33, 3) := by decide +kernel
theorem dX2_letter_50 : decode cX2_letter 50 = .ok (.aload_n 0, 1) := by decide +kernel
theorem dX2_letter_51 : decode cX2_letter 51 = .ok (.getfield 33, 3) := by decide +kernel
theorem dX2_letter_54 : decode cX2_letter 54 = .ok (.ireturn, 1) := by decide +kernel
theorem dX2_blank_0 : decode cX2_blank 0 = .ok (.aload_n 0, 1) := by decide +kernel
theorem dX2_blank_1 : decode cX2_blank 1 = .ok (.getfield 33, 3) := by decide +kernel
theorem dX2_blank_4 : decode cX2_blank 4 = .ok (.istore_n 1, 1) := by decide +kernel
theorem dX2_blank_5 : decode cX2_blank 5 = .ok (.aload_n 0, 1) := by decide +kernel
theorem dX2_blank_6 : decode cX2_blank 6 = .ok (.iconst 0, 1) := by decide +kernel
theorem dX2_blank_7 : decode cX2_blank 7 = .ok (.putfield 33, 3) := by decide +kernel
theorem dX2_blank_10 : decode cX2_blank 10 = .ok (.iload_n 1, 1) := by decide +kernel
theorem dX2_blank_11 : decode cX2_blank 11 = .ok (.ireturn, 1) := by decide +kernel
set_option maxRecDepth 20000 in
theorem ggX2_fault_X2_fittingLetters : GoodIn wsX2_fault wsX2_fittingLetters := goodIn_r _ [5, 6, 7, 8, 9, 4, 10, 11, 12, 13, 14, 15, 16, 17, 18, 19, 20] (by decide +kernel) (by decide +kernel)
set_option maxRecDepth 20000 in
theorem gX2_fault_X2_fittingLetters : GoodIn wsX2_fault (wsV RX2 37 RX2 yX2_fittingLetters wsX2_fittingLetters) := goodIn_app (goodIn_of _ (by decide +kernel)) ggX2_fault_X2_fittingLetters
theorem dX2_fault_0 : decode cX2_fault 0 = .ok (.aload_n 0, 1) := by decide +kernel
theorem dX2_fault_1 : decode cX2_fault 1 = .ok (.invokevirtual 37, 3) := by decide +kernel
theorem dX2_fault_4 : decode cX2_fault 4 = .ok (.ireturn, 1) := by decide +kernel
set_option maxRecDepth 20000 in
theorem ggX2_chest_X2_fittingLetters : GoodIn wsX2_chest wsX2_fittingLetters := goodIn_r _ [12, 1, 3, 13, 14, 11, 15, 34, 35, 36, 37, 38, 39, 40, 41, 42, 43] (by decide +kernel) (by decide +kernel)
set_option maxRecDepth 20000 in
theorem gX2_chest_X2_fittingLetters : GoodIn wsX2_chest (wsV RX2 37 RX2 yX2_fittingLetters wsX2_fittingLetters) := goodIn_app (goodIn_of _ (by decide +kernel)) ggX2_chest_X2_fittingLetters
set_option maxRecDepth 20000 in
theorem ggX2_chest_X2_delayByLetter : GoodIn wsX2_chest wsX2_delayByLetter := goodIn_r _ [18] (by decide +kernel) (by decide +kernel)
set_option maxRecDepth 20000 in
theorem gX2_chest_X2_delayByLetter : GoodIn wsX2_chest (va_wsS RX2 41 yX2_delayByLetter wsX2_delayByLetter) := goodIn_app (goodIn_of _ (by decide +kernel)) ggX2_chest_X2_delayByLetter
set_option maxRecDepth 20000 in
theorem ggX2_chest_X1_clear : GoodIn wsX2_chest wsX1_clear := goodIn_r _ [23, 24, 25, 26, 27, 28, 29, 22, 30, 31, 32, 33, 44, 45, 46, 47, 48, 49, 50, 51, 52] (by decide +kernel) (by decide +kernel)
set_option maxRecDepth 20000 in
theorem gX2_chest_X1_clear : GoodIn wsX2_chest (wsV RX2 45 RX1 yX1_clear wsX1_clear) := goodIn_app (goodIn_of _ (by decide +kernel)) ggX2_chest_X1_clear
theorem dX2_chest_0 : decode cX2_chest 0 = .ok (.aload_n 0, 1) := by decide +kernel
theorem dX2_chest_1 : decode cX2_chest 1 = .ok (.getfield 33, 3) := by decide +kernel
theorem dX2_chest_4 : decode cX2_chest 4 = .ok (.bipush 10, 2) := by decide +kernel
theorem dX2_chest_6 : decode cX2_chest 6 = .ok (.if_icmp .ne 12, 3) := by decide +kernel
theorem dX2_chest_9 : decode cX2_chest 9 = .ok (.aload_n 0, 1) := by decide +kernel
theorem dX2_chest_10 : decode cX2_chest 10 = .ok (.invokevirtual 37, 3) := by decide +kernel
theorem dX2_chest_13 : decode cX2_chest 13 = .ok (.bipush 10, 2) := by decide +kernel
theorem dX2_chest_15 : decode cX2_chest 15 = .ok (.if_icmp .eq 6, 3) := by decide +kernel
theorem dX2_chest_18 : decode cX2_chest 18 = .ok (.bipush (-103), 2) := by decide +kernel
theorem dX2_chest_20 : decode cX2_chest 20 = .ok (.ireturn, 1) := by decide +kernel
theorem dX2_chest_21 : decode cX2_chest 21 = .ok (.iconst 0, 1) := by decide +kernel
theorem dX2_chest_22 : decode cX2_chest 22 = .ok (.istore_n 1, 1) := by decide +kernel
theorem dX2_chest_23 : decode cX2_chest 23 = .ok (.iconst 0, 1) := by decide +kernel
theorem dX2_chest_24 : decode cX2_chest 24 = .ok (.istore_n 2, 1) := by decide +kernel
theorem dX2_chest_25 : decode cX2_chest 25 = .ok (.iload_n 2, 1) := by decide +kernel
theorem dX2_chest_26 : decode cX2_chest 26 = .ok (.bipush 9, 2) := by decide +kernel
theorem dX2_chest_28 : decode cX2_chest 28 = .ok (.if_icmp .ge 36, 3) := by decide +kernel
theorem dX2_chest_31 : decode cX2_chest 31 = .ok (.aload_n 0, 1) := by decide +kernel
theorem dX2_chest_32 : decode cX2_chest 32 = .ok (.getfield 13, 3) := by decide +kernel
theorem dX2_chest_35 : decode cX2_chest 35 = .ok (.iload_n 2, 1) := by decide +kernel
theorem dX2_chest_36 : decode cX2_chest 36 = .ok (.aload_n 0, 1) := by decide +kernel
theorem dX2_chest_37 : decode cX2_chest 37 = .ok (.getfield 9, 3) := by decide +kernel
theorem dX2_chest_40 : decode cX2_chest 40 = .ok (.iload_n 2, 1) := by decide +kernel
theorem dX2_chest_41 : decode cX2_chest 41 = .ok (.iaload, 1) := by decide +kernel
theorem dX2_chest_42 : decode cX2_chest 42 = .ok (.invokestatic 41, 3) := by decide +kernel
theorem dX2_chest_45 : decode cX2_chest 45 = .ok (.iastore, 1) := by decide +kernel
theorem dX2_chest_46 : decode cX2_chest 46 = .ok (.aload_n 0, 1) := by decide +kernel
theorem dX2_chest_47 : decode cX2_chest 47 = .ok (.getfield 13, 3) := by decide +kernel
theorem dX2_chest_50 : decode cX2_chest 50 = .ok (.iload_n 2, 1) := by decide +kernel
theorem dX2_chest_51 : decode cX2_chest 51 = .ok (.iaload, 1) := by decide +kernel
theorem dX2_chest_52 : decode cX2_chest 52 = .ok (.ifCond .eq 6, 3) := by decide +kernel
theorem dX2_chest_55 : decode cX2_chest 55 = .ok (.iinc 1 1, 3) := by decide +kernel
theorem dX2_chest_58 : decode cX2_chest 58 = .ok (.iinc 2 1, 3) := by decide +kernel
theorem dX2_chest_61 : decode cX2_chest 61 = .ok (.goto (-36), 3) := by decide +kernel
theorem dX2_chest_64 : decode cX2_chest 64 = .ok (.aload_n 0, 1) := by decide +kernel
theorem dX2_chest_65 : decode cX2_chest 65 = .ok (.getfield 19, 3) := by decide +kernel
theorem dX2_chest_68 : decode cX2_chest 68 = .ok (.aload_n 0, 1) := by decide +kernel
theorem dX2_chest_69 : decode cX2_chest 69 = .ok (.getfield 9, 3) := by decide +kernel
theorem dX2_chest_72 : decode cX2_chest 72 = .ok (.bipush 9, 2) := by decide +kernel
theorem dX2_chest_74 : decode cX2_chest 74 = .ok (.iaload, 1) := by decide +kernel
theorem dX2_chest_75 : decode cX2_chest 75 = .ok (.bipush 48, 2) := by decide +kernel
theorem dX2_chest_77 : decode cX2_chest 77 = .ok (.isub, 1) := by decide +kernel
theorem dX2_chest_78 : decode cX2_chest 78 = .ok (.invokevirtual 45, 3) := by decide +kernel
theorem dX2_chest_81 : decode cX2_chest 81 = .ok (.aload_n 0, 1) := by decide +kernel
theorem dX2_chest_82 : decode cX2_chest 82 = .ok (.iconst 1, 1) := by decide +kernel
theorem dX2_chest_83 : decode cX2_chest 83 = .ok (.putfield 49, 3) := by decide +kernel
theorem dX2_chest_86 : decode cX2_chest 86 = .ok (.aload_n 0, 1) := by decide +kernel
theorem dX2_chest_87 : decode cX2_chest 87 = .ok (.iconst 0, 1) := by decide +kernel
theorem dX2_chest_88 : decode cX2_chest 88 = .ok (.putfield 53, 3) := by decide +kernel
theorem dX2_chest_91 : decode cX2_chest 91 = .ok (.aload_n 0, 1) := by decide +kernel
theorem dX2_chest_92 : decode cX2_chest 92 = .ok (.dup, 1) := by decide +kernel
theorem dX2_chest_93 : decode cX2_chest 93 = .ok (.getfield 56, 3) := by decide +kernel
theorem dX2_chest_96 : decode cX2_chest 96 = .ok (.iconst 1, 1) := by decide +kernel
theorem dX2_chest_97 : decode cX2_chest 97 = .ok (.iadd, 1) := by decide +kernel
theorem dX2_chest_98 : decode cX2_chest 98 = .ok (.putfield 56, 3) := by decide +kernel
theorem dX2_chest_101 : decode cX2_chest 101 = .ok (.aload_n 0, 1) := by decide +kernel
theorem dX2_chest_102 : decode cX2_chest 102 = .ok (.iconst 0, 1) := by decide +kernel
theorem dX2_chest_103 : decode cX2_chest 103 = .ok (.putfield 33, 3) := by decide +kernel
theorem dX2_chest_106 : decode cX2_chest 106 = .ok (.iload_n 1, 1) := by decide +kernel
theorem dX2_chest_107 : decode cX2_chest 107 = .ok (.ireturn, 1) := by decide +kernel
theorem dX2_face_0 : decode cX2_face 0 = .ok (.iload_n 1, 1) := by decide +kernel
theorem dX2_face_1 : decode cX2_face 1 = .ok (.ifCond .lt 8, 3) := by decide +kernel
theorem dX2_face_4 : decode cX2_face 4 = .ok (.iload_n 1, 1) := by decide +kernel
theorem dX2_face_5 : decode cX2_face 5 = .ok (.iconst 4, 1) := by decide +kernel
theorem dX2_face_6 : decode cX2_face 6 = .ok (.if_icmp .lt 6, 3) := by decide +kernel
theorem dX2_face_9 : decode cX2_face 9 = .ok (.bipush (-102), 2) := by decide +kernel
theorem dX2_face_11 : decode cX2_face 11 = .ok (.ireturn, 1) := by decide +kernel
theorem dX2_face_12 : decode cX2_face 12 = .ok (.aload_n 0, 1) := by decide +kernel
theorem dX2_face_13 : decode cX2_face 13 = .ok (.getfield 49, 3) := by decide +kernel
theorem dX2_face_16 : decode cX2_face 16 = .ok (.ifCond .ne 6, 3) := by decide +kernel
theorem dX2_face_19 : decode cX2_face 19 = .ok (.bipush (-103), 2) := by decide +kernel
theorem dX2_face_21 : decode cX2_face 21 = .ok (.ireturn, 1) := by decide +kernel
theorem dX2_face_22 : decode cX2_face 22 = .ok (.aload_n 0, 1) := by decide +kernel
theorem dX2_face_23 : decode cX2_face 23 = .ok (.getfield 19, 3) := by decide +kernel
theorem dX2_face_26 : decode cX2_face 26 = .ok (.getfield 59, 3) := by decide +kernel
theorem dX2_face_29 : decode cX2_face 29 = .ok (.istore_n 2, 1) := by decide +kernel
theorem dX2_face_30 : decode cX2_face 30 = .ok (.aload_n 0, 1) := by decide +kernel
theorem dX2_face_31 : decode cX2_face 31 = .ok (.getfield 19, 3) := by decide +kernel
theorem dX2_face_34 : decode cX2_face 34 = .ok (.iload_n 1, 1) := by decide +kernel
theorem dX2_face_35 : decode cX2_face 35 = .ok (.putfield 59, 3) := by decide +kernel
theorem dX2_face_38 : decode cX2_face 38 = .ok (.iload_n 2, 1) := by decide +kernel
theorem dX2_face_39 : decode cX2_face 39 = .ok (.ireturn, 1) := by decide +kernel
set_option maxRecDepth 20000 in
theorem ggX2_drawer_X2_isDrawer : GoodIn wsX2_drawer wsX2_isDrawer := goodIn_r _ [8, 9, 88, 89, 90, 91, 92, 93, 94, 95, 96, 97] (by decide +kernel) (by decide +kernel)
set_option maxRecDepth 20000 in
theorem gX2_drawer_X2_isDrawer : GoodIn wsX2_drawer (wsV RX2 62 RX2 yX2_isDrawer wsX2_isDrawer) := goodIn_app (goodIn_of _ (by decide +kernel)) ggX2_drawer_X2_isDrawer
set_option maxRecDepth 20000 in
theorem ggX2_drawer_X2_aheadOf : GoodIn wsX2_drawer wsX2_aheadOf := goodIn_r _ [13, 2, 14, 1, 88, 89, 90, 91, 92, 93, 94, 95, 96, 97, 98, 99, 100, 101, 102, 103, 104, 105, 106] (by decide +kernel) (by decide +kernel)
set_option maxRecDepth 20000 in
theorem gX2_drawer_X2_aheadOf : GoodIn wsX2_drawer (wsV RX2 66 RX2 yX2_aheadOf wsX2_aheadOf) := goodIn_app (goodIn_of _ (by decide +kernel)) ggX2_drawer_X2_aheadOf
set_option maxRecDepth 20000 in
theorem ggX2_drawer_X1_peopleOf : GoodIn wsX2_drawer wsX1_peopleOf := goodIn_r _ [19, 20, 21, 98, 99, 100, 101, 102, 103, 104, 105, 106] (by decide +kernel) (by decide +kernel)
set_option maxRecDepth 20000 in
theorem gX2_drawer_X1_peopleOf : GoodIn wsX2_drawer (wsV RX2 69 RX1 yX1_peopleOf wsX1_peopleOf) := goodIn_app (goodIn_of _ (by decide +kernel)) ggX2_drawer_X1_peopleOf
set_option maxRecDepth 20000 in
theorem ggX2_drawer_X2_courseOf : GoodIn wsX2_drawer wsX2_courseOf := goodIn_r _ [25, 26, 27, 28, 7, 29, 30, 2, 3, 31, 32, 33, 34, 10, 11, 12, 13, 14, 1, 35, 36, 37, 38, 39, 40, 41, 42, 43, 44, 45, 46, 47, 48, 49, 50, 51, 52, 53, 54, 55, 56, 57, 58, 59, 60, 61, 62, 63, 64, 65, 66, 88, 89, 90, 91, 92, 93, 94, 95, 96, 97, 98, 99, 100, 101, 102, 103, 104, 105, 106, 107, 108, 109, 110, 111, 112, 113] (by decide +kernel) (by decide +kernel)
set_option maxRecDepth 20000 in
theorem gX2_drawer_X2_courseOf : GoodIn wsX2_drawer (wsV RX2 75 RX2 yX2_courseOf wsX2_courseOf) := goodIn_app (goodIn_of _ (by decide +kernel)) ggX2_drawer_X2_courseOf
set_option maxRecDepth 20000 in
theorem ggX2_drawer_X0_agreeing : GoodIn wsX2_drawer wsX0_agreeing := goodIn_r _ [70, 58, 56, 57, 71, 72, 73, 74, 75, 76, 77, 107, 108, 109, 110, 111, 112, 113] (by decide +kernel) (by decide +kernel)
set_option maxRecDepth 20000 in
theorem gX2_drawer_X0_agreeing : GoodIn wsX2_drawer (wsV RX2 79 RX0 yX0_agreeing wsX0_agreeing) := goodIn_app (goodIn_of _ (by decide +kernel)) ggX2_drawer_X0_agreeing
set_option maxRecDepth 20000 in
theorem ggX2_drawer_X0_firstStuckDay : GoodIn wsX2_drawer wsX0_firstStuckDay := goodIn_r _ [81, 58, 82, 7, 83, 107, 108, 109, 110, 111, 112, 113] (by decide +kernel) (by decide +kernel)
set_option maxRecDepth 20000 in
theorem gX2_drawer_X0_firstStuckDay : GoodIn wsX2_drawer (wsV RX2 82 RX0 yX0_firstStuckDay wsX0_firstStuckDay) := goodIn_app (goodIn_of _ (by decide +kernel)) ggX2_drawer_X0_firstStuckDay
set_option maxRecDepth 20000 in
theorem ggX2_drawer_X0_leastWeek : GoodIn wsX2_drawer wsX0_leastWeek := goodIn_r _ [87, 58, 57, 107, 108, 109, 110, 111, 112, 113] (by decide +kernel) (by decide +kernel)
set_option maxRecDepth 20000 in
theorem gX2_drawer_X0_leastWeek : GoodIn wsX2_drawer (wsV RX2 85 RX0 yX0_leastWeek wsX0_leastWeek) := goodIn_app (goodIn_of _ (by decide +kernel)) ggX2_drawer_X0_leastWeek
theorem dX2_drawer_0 : decode cX2_drawer 0 = .ok (.aload_n 0, 1) := by decide +kernel
theorem dX2_drawer_1 : decode cX2_drawer 1 = .ok (.iload_n 1, 1) := by decide +kernel
theorem dX2_drawer_2 : decode cX2_drawer 2 = .ok (.invokevirtual 62, 3) := by decide +kernel
theorem dX2_drawer_5 : decode cX2_drawer 5 = .ok (.ifCond .ne 6, 3) := by decide +kernel
theorem dX2_drawer_8 : decode cX2_drawer 8 = .ok (.bipush (-101), 2) := by decide +kernel
theorem dX2_drawer_10 : decode cX2_drawer 10 = .ok (.ireturn, 1) := by decide +kernel
theorem dX2_drawer_11 : decode cX2_drawer 11 = .ok (.iload_n 2, 1) := by decide +kernel
theorem dX2_drawer_12 : decode cX2_drawer 12 = .ok (.tableswitch 109 0 6 #[44, 54, 63, 72, 82, 91, 100], 44) := by decide +kernel
theorem dX2_drawer_56 : decode cX2_drawer 56 = .ok (.aload_n 0, 1) := by decide +kernel
theorem dX2_drawer_57 : decode cX2_drawer 57 = .ok (.getfield 13, 3) := by decide +kernel
theorem dX2_drawer_60 : decode cX2_drawer 60 = .ok (.iload_n 1, 1) := by decide +kernel
theorem dX2_drawer_61 : decode cX2_drawer 61 = .ok (.iaload, 1) := by decide +kernel
theorem dX2_drawer_62 : decode cX2_drawer 62 = .ok (.bipush 10, 2) := by decide +kernel
theorem dX2_drawer_64 : decode cX2_drawer 64 = .ok (.iadd, 1) := by decide +kernel
theorem dX2_drawer_65 : decode cX2_drawer 65 = .ok (.ireturn, 1) := by decide +kernel
theorem dX2_drawer_66 : decode cX2_drawer 66 = .ok (.aload_n 0, 1) := by decide +kernel
theorem dX2_drawer_67 : decode cX2_drawer 67 = .ok (.iload_n 1, 1) := by decide +kernel
theorem dX2_drawer_68 : decode cX2_drawer 68 = .ok (.invokevirtual 66, 3) := by decide +kernel
theorem dX2_drawer_71 : decode cX2_drawer 71 = .ok (.bipush 10, 2) := by decide +kernel
theorem dX2_drawer_73 : decode cX2_drawer 73 = .ok (.iadd, 1) := by decide +kernel
theorem dX2_drawer_74 : decode cX2_drawer 74 = .ok (.ireturn, 1) := by decide +kernel
theorem dX2_drawer_75 : decode cX2_drawer 75 = .ok (.aload_n 0, 1) := by decide +kernel
theorem dX2_drawer_76 : decode cX2_drawer 76 = .ok (.getfield 19, 3) := by decide +kernel
theorem dX2_drawer_79 : decode cX2_drawer 79 = .ok (.iload_n 1, 1) := by decide +kernel
theorem dX2_drawer_80 : decode cX2_drawer 80 = .ok (.invokevirtual 69, 3) := by decide +kernel
theorem dX2_drawer_83 : decode cX2_drawer 83 = .ok (.ireturn, 1) := by decide +kernel
theorem dX2_drawer_84 : decode cX2_drawer 84 = .ok (.aload_n 0, 1) := by decide +kernel
theorem dX2_drawer_85 : decode cX2_drawer 85 = .ok (.getfield 19, 3) := by decide +kernel
theorem dX2_drawer_88 : decode cX2_drawer 88 = .ok (.getfield 72, 3) := by decide +kernel
theorem dX2_drawer_91 : decode cX2_drawer 91 = .ok (.iload_n 1, 1) := by decide +kernel
theorem dX2_drawer_92 : decode cX2_drawer 92 = .ok (.iaload, 1) := by decide +kernel
theorem dX2_drawer_93 : decode cX2_drawer 93 = .ok (.ireturn, 1) := by decide +kernel
theorem dX2_drawer_94 : decode cX2_drawer 94 = .ok (.aload_n 0, 1) := by decide +kernel
theorem dX2_drawer_95 : decode cX2_drawer 95 = .ok (.iload_n 1, 1) := by decide +kernel
theorem dX2_drawer_96 : decode cX2_drawer 96 = .ok (.invokevirtual 75, 3) := by decide +kernel
theorem dX2_drawer_99 : decode cX2_drawer 99 = .ok (.invokevirtual 79, 3) := by decide +kernel
theorem dX2_drawer_102 : decode cX2_drawer 102 = .ok (.ireturn, 1) := by decide +kernel
theorem dX2_drawer_103 : decode cX2_drawer 103 = .ok (.aload_n 0, 1) := by decide +kernel
theorem dX2_drawer_104 : decode cX2_drawer 104 = .ok (.iload_n 1, 1) := by decide +kernel
theorem dX2_drawer_105 : decode cX2_drawer 105 = .ok (.invokevirtual 75, 3) := by decide +kernel
theorem dX2_drawer_108 : decode cX2_drawer 108 = .ok (.invokevirtual 82, 3) := by decide +kernel
theorem dX2_drawer_111 : decode cX2_drawer 111 = .ok (.ireturn, 1) := by decide +kernel
theorem dX2_drawer_112 : decode cX2_drawer 112 = .ok (.aload_n 0, 1) := by decide +kernel
theorem dX2_drawer_113 : decode cX2_drawer 113 = .ok (.iload_n 1, 1) := by decide +kernel
theorem dX2_drawer_114 : decode cX2_drawer 114 = .ok (.invokevirtual 75, 3) := by decide +kernel
theorem dX2_drawer_117 : decode cX2_drawer 117 = .ok (.invokevirtual 85, 3) := by decide +kernel
theorem dX2_drawer_120 : decode cX2_drawer 120 = .ok (.ireturn, 1) := by decide +kernel
theorem dX2_drawer_121 : decode cX2_drawer 121 = .ok (.bipush (-102), 2) := by decide +kernel
theorem dX2_drawer_123 : decode cX2_drawer 123 = .ok (.ireturn, 1) := by decide +kernel
set_option maxRecDepth 20000 in
theorem ggX2_person_X2_isKind : GoodIn wsX2_person wsX2_isKind := goodIn_r _ [9] (by decide +kernel) (by decide +kernel)
set_option maxRecDepth 20000 in
theorem gX2_person_X2_isKind : GoodIn wsX2_person (va_wsS RX2 88 yX2_isKind wsX2_isKind) := goodIn_app (goodIn_of _ (by decide +kernel)) ggX2_person_X2_isKind
set_option maxRecDepth 20000 in
theorem ggX2_person_X2_isDrawer : GoodIn wsX2_person wsX2_isDrawer := goodIn_r _ [13, 14, 18, 19, 20, 21, 22, 23, 24, 25, 26, 27] (by decide +kernel) (by decide +kernel)
set_option maxRecDepth 20000 in
theorem gX2_person_X2_isDrawer : GoodIn wsX2_person (wsV RX2 62 RX2 yX2_isDrawer wsX2_isDrawer) := goodIn_app (goodIn_of _ (by decide +kernel)) ggX2_person_X2_isDrawer
set_option maxRecDepth 20000 in
theorem ggX2_person_X2_isDay : GoodIn wsX2_person wsX2_isDay := goodIn_r _ [17] (by decide +kernel) (by decide +kernel)
set_option maxRecDepth 20000 in
theorem gX2_person_X2_isDay : GoodIn wsX2_person (va_wsS RX2 91 yX2_isDay wsX2_isDay) := goodIn_app (goodIn_of _ (by decide +kernel)) ggX2_person_X2_isDay
theorem dX2_person_0 : decode cX2_person 0 = .ok (.iload_n 1, 1) := by decide +kernel
theorem dX2_person_1 : decode cX2_person 1 = .ok (.invokestatic 88, 3) := by decide +kernel
theorem dX2_person_4 : decode cX2_person 4 = .ok (.ifCond .ne 6, 3) := by decide +kernel
theorem dX2_person_7 : decode cX2_person 7 = .ok (.bipush (-102), 2) := by decide +kernel
theorem dX2_person_9 : decode cX2_person 9 = .ok (.ireturn, 1) := by decide +kernel
theorem dX2_person_10 : decode cX2_person 10 = .ok (.aload_n 0, 1) := by decide +kernel
theorem dX2_person_11 : decode cX2_person 11 = .ok (.iload_n 2, 1) := by decide +kernel
theorem dX2_person_12 : decode cX2_person 12 = .ok (.invokevirtual 62, 3) := by decide +kernel
theorem dX2_person_15 : decode cX2_person 15 = .ok (.ifCond .eq 10, 3) := by decide +kernel
theorem dX2_person_18 : decode cX2_person 18 = .ok (.iload_n 3, 1) := by decide +kernel
theorem dX2_person_19 : decode cX2_person 19 = .ok (.invokestatic 91, 3) := by decide +kernel
theorem dX2_person_22 : decode cX2_person 22 = .ok (.ifCond .ne 6, 3) := by decide +kernel
theorem dX2_person_25 : decode cX2_person 25 = .ok (.bipush (-101), 2) := by decide +kernel
theorem dX2_person_27 : decode cX2_person 27 = .ok (.ireturn, 1) := by decide +kernel
theorem dX2_person_28 : decode cX2_person 28 = .ok (.aload_n 0, 1) := by decide +kernel
theorem dX2_person_29 : decode cX2_person 29 = .ok (.getfield 19, 3) := by decide +kernel
theorem dX2_person_32 : decode cX2_person 32 = .ok (.getfield 94, 3) := by decide +kernel
theorem dX2_person_35 : decode cX2_person 35 = .ok (.bipush 6, 2) := by decide +kernel
theorem dX2_person_37 : decode cX2_person 37 = .ok (.if_icmp .lt 6, 3) := by decide +kernel
theorem dX2_person_40 : decode cX2_person 40 = .ok (.bipush (-104), 2) := by decide +kernel
theorem dX2_person_42 : decode cX2_person 42 = .ok (.ireturn, 1) := by decide +kernel
theorem dX2_person_43 : decode cX2_person 43 = .ok (.aload_n 0, 1) := by decide +kernel
theorem dX2_person_44 : decode cX2_person 44 = .ok (.getfield 19, 3) := by decide +kernel
theorem dX2_person_47 : decode cX2_person 47 = .ok (.getfield 94, 3) := by decide +kernel
theorem dX2_person_50 : decode cX2_person 50 = .ok (.istore 4, 2) := by decide +kernel
theorem dX2_person_52 : decode cX2_person 52 = .ok (.aload_n 0, 1) := by decide +kernel
theorem dX2_person_53 : decode cX2_person 53 = .ok (.getfield 19, 3) := by decide +kernel
theorem dX2_person_56 : decode cX2_person 56 = .ok (.getfield 97, 3) := by decide +kernel
theorem dX2_person_59 : decode cX2_person 59 = .ok (.iload 4, 2) := by decide +kernel
theorem dX2_person_61 : decode cX2_person 61 = .ok (.iload_n 1, 1) := by decide +kernel
theorem dX2_person_62 : decode cX2_person 62 = .ok (.iastore, 1) := by decide +kernel
theorem dX2_person_63 : decode cX2_person 63 = .ok (.aload_n 0, 1) := by decide +kernel
theorem dX2_person_64 : decode cX2_person 64 = .ok (.getfield 19, 3) := by decide +kernel
theorem dX2_person_67 : decode cX2_person 67 = .ok (.getfield 100, 3) := by decide +kernel
theorem dX2_person_70 : decode cX2_person 70 = .ok (.iload 4, 2) := by decide +kernel
theorem dX2_person_72 : decode cX2_person 72 = .ok (.iload_n 2, 1) := by decide +kernel
theorem dX2_person_73 : decode cX2_person 73 = .ok (.iastore, 1) := by decide +kernel
theorem dX2_person_74 : decode cX2_person 74 = .ok (.aload_n 0, 1) := by decide +kernel
theorem dX2_person_75 : decode cX2_person 75 = .ok (.getfield 19, 3) := by decide +kernel
theorem dX2_person_78 : decode cX2_person 78 = .ok (.getfield 103, 3) := by decide +kernel
theorem dX2_person_81 : decode cX2_person 81 = .ok (.iload 4, 2) := by decide +kernel
theorem dX2_person_83 : decode cX2_person 83 = .ok (.iload_n 3, 1) := by decide +kernel
theorem dX2_person_84 : decode cX2_person 84 = .ok (.iastore, 1) := by decide +kernel
theorem dX2_person_85 : decode cX2_person 85 = .ok (.aload_n 0, 1) := by decide +kernel
theorem dX2_person_86 : decode cX2_person 86 = .ok (.getfield 19, 3) := by decide +kernel
theorem dX2_person_89 : decode cX2_person 89 = .ok (.dup, 1) := by decide +kernel
theorem dX2_person_90 : decode cX2_person 90 = .ok (.getfield 94, 3) := by decide +kernel
theorem dX2_person_93 : decode cX2_person 93 = .ok (.iconst 1, 1) := by decide +kernel
theorem dX2_person_94 : decode cX2_person 94 = .ok (.iadd, 1) := by decide +kernel
theorem dX2_person_95 : decode cX2_person 95 = .ok (.putfield 94, 3) := by decide +kernel
theorem dX2_person_98 : decode cX2_person 98 = .ok (.iload 4, 2) := by decide +kernel
theorem dX2_person_100 : decode cX2_person 100 = .ok (.ireturn, 1) := by decide +kernel
set_option maxRecDepth 20000 in
theorem ggX2_about_X2_isPerson : GoodIn wsX2_about wsX2_isPerson := goodIn_r _ [9, 1, 10, 20, 21, 22, 23, 24, 25, 26, 27, 28, 29, 30, 31, 32, 33, 34, 35, 36, 37, 38] (by decide +kernel) (by decide +kernel)
set_option maxRecDepth 20000 in
theorem gX2_about_X2_isPerson : GoodIn wsX2_about (wsV RX2 106 RX2 yX2_isPerson wsX2_isPerson) := goodIn_app (goodIn_of _ (by decide +kernel)) ggX2_about_X2_isPerson
set_option maxRecDepth 20000 in
theorem ggX2_about_X2_putsIfEmpty : GoodIn wsX2_about wsX2_putsIfEmpty := goodIn_r _ [13] (by decide +kernel) (by decide +kernel)
set_option maxRecDepth 20000 in
theorem gX2_about_X2_putsIfEmpty : GoodIn wsX2_about (va_wsS RX2 109 yX2_putsIfEmpty wsX2_putsIfEmpty) := goodIn_app (goodIn_of _ (by decide +kernel)) ggX2_about_X2_putsIfEmpty
set_option maxRecDepth 20000 in
theorem ggX2_about_X2_bitOf : GoodIn wsX2_about wsX2_bitOf := goodIn_r _ [16] (by decide +kernel) (by decide +kernel)
set_option maxRecDepth 20000 in
theorem gX2_about_X2_bitOf : GoodIn wsX2_about (va_wsS RX2 113 yX2_bitOf wsX2_bitOf) := goodIn_app (goodIn_of _ (by decide +kernel)) ggX2_about_X2_bitOf
set_option maxRecDepth 20000 in
theorem ggX2_about_X2_putsIfThere : GoodIn wsX2_about wsX2_putsIfThere := goodIn_r _ [19] (by decide +kernel) (by decide +kernel)
set_option maxRecDepth 20000 in
theorem gX2_about_X2_putsIfThere : GoodIn wsX2_about (va_wsS RX2 116 yX2_putsIfThere wsX2_putsIfThere) := goodIn_app (goodIn_of _ (by decide +kernel)) ggX2_about_X2_putsIfThere
theorem dX2_about_0 : decode cX2_about 0 = .ok (.aload_n 0, 1) := by decide +kernel
theorem dX2_about_1 : decode cX2_about 1 = .ok (.iload_n 1, 1) := by decide +kernel
theorem dX2_about_2 : decode cX2_about 2 = .ok (.invokevirtual 106, 3) := by decide +kernel
theorem dX2_about_5 : decode cX2_about 5 = .ok (.ifCond .ne 6, 3) := by decide +kernel
end
section
theorem dX2_about_8 : decode cX2_about 8 = .ok (.bipush (-101), 2) := by decide +kernel
theorem dX2_about_10 : decode cX2_about 10 = .ok (.ireturn, 1) := by decide +kernel
theorem dX2_about_11 : decode cX2_about 11 = .ok (.aload_n 0, 1) := by decide +kernel
theorem dX2_about_12 : decode cX2_about 12 = .ok (.getfield 19, 3) := by decide +kernel
theorem dX2_about_15 : decode cX2_about 15 = .ok (.getfield 97, 3) := by decide +kernel
theorem dX2_about_18 : decode cX2_about 18 = .ok (.iload_n 1, 1) := by decide +kernel
theorem dX2_about_19 : decode cX2_about 19 = .ok (.iaload, 1) := by decide +kernel
theorem dX2_about_20 : decode cX2_about 20 = .ok (.istore_n 3, 1) := by decide +kernel
theorem dX2_about_21 : decode cX2_about 21 = .ok (.aload_n 0, 1) := by decide +kernel
theorem dX2_about_22 : decode cX2_about 22 = .ok (.getfield 19, 3) := by decide +kernel
theorem dX2_about_25 : decode cX2_about 25 = .ok (.getfield 103, 3) := by decide +kernel
theorem dX2_about_28 : decode cX2_about 28 = .ok (.iload_n 1, 1) := by decide +kernel
theorem dX2_about_29 : decode cX2_about 29 = .ok (.iaload, 1) := by decide +kernel
theorem dX2_about_30 : decode cX2_about 30 = .ok (.istore 4, 2) := by decide +kernel
theorem dX2_about_32 : decode cX2_about 32 = .ok (.iload_n 2, 1) := by decide +kernel
theorem dX2_about_33 : decode cX2_about 33 = .ok (.ifCond .ne 5, 3) := by decide +kernel
theorem dX2_about_36 : decode cX2_about 36 = .ok (.iload_n 3, 1) := by decide +kernel
theorem dX2_about_37 : decode cX2_about 37 = .ok (.ireturn, 1) := by decide +kernel
theorem dX2_about_38 : decode cX2_about 38 = .ok (.iload_n 2, 1) := by decide +kernel
theorem dX2_about_39 : decode cX2_about 39 = .ok (.iconst 1, 1) := by decide +kernel
theorem dX2_about_40 : decode cX2_about 40 = .ok (.if_icmp .ne 13, 3) := by decide +kernel
theorem dX2_about_43 : decode cX2_about 43 = .ok (.aload_n 0, 1) := by decide +kernel
theorem dX2_about_44 : decode cX2_about 44 = .ok (.getfield 19, 3) := by decide +kernel
theorem dX2_about_47 : decode cX2_about 47 = .ok (.getfield 100, 3) := by decide +kernel
theorem dX2_about_50 : decode cX2_about 50 = .ok (.iload_n 1, 1) := by decide +kernel
theorem dX2_about_51 : decode cX2_about 51 = .ok (.iaload, 1) := by decide +kernel
theorem dX2_about_52 : decode cX2_about 52 = .ok (.ireturn, 1) := by decide +kernel
theorem dX2_about_53 : decode cX2_about 53 = .ok (.iload_n 2, 1) := by decide +kernel
theorem dX2_about_54 : decode cX2_about 54 = .ok (.iconst 2, 1) := by decide +kernel
theorem dX2_about_55 : decode cX2_about 55 = .ok (.if_icmp .ne 6, 3) := by decide +kernel
theorem dX2_about_58 : decode cX2_about 58 = .ok (.iload 4, 2) := by decide +kernel
theorem dX2_about_60 : decode cX2_about 60 = .ok (.ireturn, 1) := by decide +kernel
theorem dX2_about_61 : decode cX2_about 61 = .ok (.iload_n 2, 1) := by decide +kernel
theorem dX2_about_62 : decode cX2_about 62 = .ok (.bipush 10, 2) := by decide +kernel
theorem dX2_about_64 : decode cX2_about 64 = .ok (.if_icmp .lt 23, 3) := by decide +kernel
theorem dX2_about_67 : decode cX2_about 67 = .ok (.iload_n 2, 1) := by decide +kernel
theorem dX2_about_68 : decode cX2_about 68 = .ok (.bipush 17, 2) := by decide +kernel
theorem dX2_about_70 : decode cX2_about 70 = .ok (.if_icmp .ge 17, 3) := by decide +kernel
theorem dX2_about_73 : decode cX2_about 73 = .ok (.iload_n 3, 1) := by decide +kernel
theorem dX2_about_74 : decode cX2_about 74 = .ok (.iload 4, 2) := by decide +kernel
theorem dX2_about_76 : decode cX2_about 76 = .ok (.invokestatic 109, 3) := by decide +kernel
theorem dX2_about_79 : decode cX2_about 79 = .ok (.iload_n 2, 1) := by decide +kernel
theorem dX2_about_80 : decode cX2_about 80 = .ok (.bipush 10, 2) := by decide +kernel
theorem dX2_about_82 : decode cX2_about 82 = .ok (.isub, 1) := by decide +kernel
theorem dX2_about_83 : decode cX2_about 83 = .ok (.invokestatic 113, 3) := by decide +kernel
theorem dX2_about_86 : decode cX2_about 86 = .ok (.ireturn, 1) := by decide +kernel
theorem dX2_about_87 : decode cX2_about 87 = .ok (.iload_n 2, 1) := by decide +kernel
theorem dX2_about_88 : decode cX2_about 88 = .ok (.bipush 20, 2) := by decide +kernel
theorem dX2_about_90 : decode cX2_about 90 = .ok (.if_icmp .lt 23, 3) := by decide +kernel
theorem dX2_about_93 : decode cX2_about 93 = .ok (.iload_n 2, 1) := by decide +kernel
theorem dX2_about_94 : decode cX2_about 94 = .ok (.bipush 27, 2) := by decide +kernel
theorem dX2_about_96 : decode cX2_about 96 = .ok (.if_icmp .ge 17, 3) := by decide +kernel
theorem dX2_about_99 : decode cX2_about 99 = .ok (.iload_n 3, 1) := by decide +kernel
theorem dX2_about_100 : decode cX2_about 100 = .ok (.iload 4, 2) := by decide +kernel
theorem dX2_about_102 : decode cX2_about 102 = .ok (.invokestatic 116, 3) := by decide +kernel
theorem dX2_about_105 : decode cX2_about 105 = .ok (.iload_n 2, 1) := by decide +kernel
theorem dX2_about_106 : decode cX2_about 106 = .ok (.bipush 20, 2) := by decide +kernel
theorem dX2_about_108 : decode cX2_about 108 = .ok (.isub, 1) := by decide +kernel
theorem dX2_about_109 : decode cX2_about 109 = .ok (.invokestatic 113, 3) := by decide +kernel
theorem dX2_about_112 : decode cX2_about 112 = .ok (.ireturn, 1) := by decide +kernel
theorem dX2_about_113 : decode cX2_about 113 = .ok (.bipush (-102), 2) := by decide +kernel
theorem dX2_about_115 : decode cX2_about 115 = .ok (.ireturn, 1) := by decide +kernel
set_option maxRecDepth 20000 in
theorem ggX2_as_X2_isPerson : GoodIn wsX2_as wsX2_isPerson := goodIn_r _ [7, 1, 8, 15, 16, 17, 18, 19, 20, 21, 22, 23, 24, 25, 26, 27, 28, 29, 30, 31, 32, 33] (by decide +kernel) (by decide +kernel)
set_option maxRecDepth 20000 in
theorem gX2_as_X2_isPerson : GoodIn wsX2_as (wsV RX2 106 RX2 yX2_isPerson wsX2_isPerson) := goodIn_app (goodIn_of _ (by decide +kernel)) ggX2_as_X2_isPerson
set_option maxRecDepth 20000 in
theorem ggX2_as_X2_isKind : GoodIn wsX2_as wsX2_isKind := goodIn_r _ [11] (by decide +kernel) (by decide +kernel)
set_option maxRecDepth 20000 in
theorem gX2_as_X2_isKind : GoodIn wsX2_as (va_wsS RX2 88 yX2_isKind wsX2_isKind) := goodIn_app (goodIn_of _ (by decide +kernel)) ggX2_as_X2_isKind
set_option maxRecDepth 20000 in
theorem ggX2_as_X2_isOfKind : GoodIn wsX2_as wsX2_isOfKind := goodIn_r _ [14] (by decide +kernel) (by decide +kernel)
set_option maxRecDepth 20000 in
theorem gX2_as_X2_isOfKind : GoodIn wsX2_as (va_wsS RX2 119 yX2_isOfKind wsX2_isOfKind) := goodIn_app (goodIn_of _ (by decide +kernel)) ggX2_as_X2_isOfKind
theorem dX2_as_0 : decode cX2_as 0 = .ok (.aload_n 0, 1) := by decide +kernel
theorem dX2_as_1 : decode cX2_as 1 = .ok (.iload_n 1, 1) := by decide +kernel
theorem dX2_as_2 : decode cX2_as 2 = .ok (.invokevirtual 106, 3) := by decide +kernel
theorem dX2_as_5 : decode cX2_as 5 = .ok (.ifCond .ne 6, 3) := by decide +kernel
theorem dX2_as_8 : decode cX2_as 8 = .ok (.bipush (-101), 2) := by decide +kernel
theorem dX2_as_10 : decode cX2_as 10 = .ok (.ireturn, 1) := by decide +kernel
theorem dX2_as_11 : decode cX2_as 11 = .ok (.iload_n 2, 1) := by decide +kernel
theorem dX2_as_12 : decode cX2_as 12 = .ok (.invokestatic 88, 3) := by decide +kernel
theorem dX2_as_15 : decode cX2_as 15 = .ok (.ifCond .ne 6, 3) := by decide +kernel
theorem dX2_as_18 : decode cX2_as 18 = .ok (.bipush (-102), 2) := by decide +kernel
theorem dX2_as_20 : decode cX2_as 20 = .ok (.ireturn, 1) := by decide +kernel
theorem dX2_as_21 : decode cX2_as 21 = .ok (.aload_n 0, 1) := by decide +kernel
theorem dX2_as_22 : decode cX2_as 22 = .ok (.getfield 19, 3) := by decide +kernel
theorem dX2_as_25 : decode cX2_as 25 = .ok (.getfield 97, 3) := by decide +kernel
theorem dX2_as_28 : decode cX2_as 28 = .ok (.iload_n 1, 1) := by decide +kernel
theorem dX2_as_29 : decode cX2_as 29 = .ok (.iaload, 1) := by decide +kernel
theorem dX2_as_30 : decode cX2_as 30 = .ok (.iload_n 2, 1) := by decide +kernel
theorem dX2_as_31 : decode cX2_as 31 = .ok (.invokestatic 119, 3) := by decide +kernel
theorem dX2_as_34 : decode cX2_as 34 = .ok (.ifCond .eq 7, 3) := by decide +kernel
theorem dX2_as_37 : decode cX2_as 37 = .ok (.iload_n 1, 1) := by decide +kernel
theorem dX2_as_38 : decode cX2_as 38 = .ok (.goto 4, 3) := by decide +kernel
theorem dX2_as_41 : decode cX2_as 41 = .ok (.iconst (-1), 1) := by decide +kernel
theorem dX2_as_42 : decode cX2_as 42 = .ok (.ireturn, 1) := by decide +kernel
set_option maxRecDepth 20000 in
theorem ggX2_move_X2_isPerson : GoodIn wsX2_move wsX2_isPerson := goodIn_r _ [7, 1, 8, 14, 15, 16, 17, 18, 19, 20, 21, 22, 23, 24, 25, 26, 27, 28, 29, 30, 31, 32] (by decide +kernel) (by decide +kernel)
set_option maxRecDepth 20000 in
theorem gX2_move_X2_isPerson : GoodIn wsX2_move (wsV RX2 106 RX2 yX2_isPerson wsX2_isPerson) := goodIn_app (goodIn_of _ (by decide +kernel)) ggX2_move_X2_isPerson
set_option maxRecDepth 20000 in
theorem ggX2_move_X2_isDrawer : GoodIn wsX2_move wsX2_isDrawer := goodIn_r _ [12, 13, 14, 15, 16, 17, 18, 19, 20, 21, 22, 23] (by decide +kernel) (by decide +kernel)
set_option maxRecDepth 20000 in
theorem gX2_move_X2_isDrawer : GoodIn wsX2_move (wsV RX2 62 RX2 yX2_isDrawer wsX2_isDrawer) := goodIn_app (goodIn_of _ (by decide +kernel)) ggX2_move_X2_isDrawer
theorem dX2_move_0 : decode cX2_move 0 = .ok (.aload_n 0, 1) := by decide +kernel
theorem dX2_move_1 : decode cX2_move 1 = .ok (.iload_n 1, 1) := by decide +kernel
theorem dX2_move_2 : decode cX2_move 2 = .ok (.invokevirtual 106, 3) := by decide +kernel
theorem dX2_move_5 : decode cX2_move 5 = .ok (.ifCond .eq 11, 3) := by decide +kernel
theorem dX2_move_8 : decode cX2_move 8 = .ok (.aload_n 0, 1) := by decide +kernel
theorem dX2_move_9 : decode cX2_move 9 = .ok (.iload_n 2, 1) := by decide +kernel
theorem dX2_move_10 : decode cX2_move 10 = .ok (.invokevirtual 62, 3) := by decide +kernel
theorem dX2_move_13 : decode cX2_move 13 = .ok (.ifCond .ne 6, 3) := by decide +kernel
theorem dX2_move_16 : decode cX2_move 16 = .ok (.bipush (-101), 2) := by decide +kernel
theorem dX2_move_18 : decode cX2_move 18 = .ok (.ireturn, 1) := by decide +kernel
theorem dX2_move_19 : decode cX2_move 19 = .ok (.aload_n 0, 1) := by decide +kernel
theorem dX2_move_20 : decode cX2_move 20 = .ok (.getfield 19, 3) := by decide +kernel
theorem dX2_move_23 : decode cX2_move 23 = .ok (.getfield 100, 3) := by decide +kernel
theorem dX2_move_26 : decode cX2_move 26 = .ok (.iload_n 1, 1) := by decide +kernel
theorem dX2_move_27 : decode cX2_move 27 = .ok (.iaload, 1) := by decide +kernel
theorem dX2_move_28 : decode cX2_move 28 = .ok (.istore_n 3, 1) := by decide +kernel
theorem dX2_move_29 : decode cX2_move 29 = .ok (.aload_n 0, 1) := by decide +kernel
theorem dX2_move_30 : decode cX2_move 30 = .ok (.getfield 19, 3) := by decide +kernel
theorem dX2_move_33 : decode cX2_move 33 = .ok (.getfield 100, 3) := by decide +kernel
theorem dX2_move_36 : decode cX2_move 36 = .ok (.iload_n 1, 1) := by decide +kernel
theorem dX2_move_37 : decode cX2_move 37 = .ok (.iload_n 2, 1) := by decide +kernel
theorem dX2_move_38 : decode cX2_move 38 = .ok (.iastore, 1) := by decide +kernel
theorem dX2_move_39 : decode cX2_move 39 = .ok (.iload_n 3, 1) := by decide +kernel
theorem dX2_move_40 : decode cX2_move 40 = .ok (.ireturn, 1) := by decide +kernel
set_option maxRecDepth 20000 in
theorem ggX2_lay_X2_isDrawer : GoodIn wsX2_lay wsX2_isDrawer := goodIn_r _ [7, 8, 15, 16, 17, 18, 19, 20, 21, 22, 23, 24] (by decide +kernel) (by decide +kernel)
set_option maxRecDepth 20000 in
theorem gX2_lay_X2_isDrawer : GoodIn wsX2_lay (wsV RX2 62 RX2 yX2_isDrawer wsX2_isDrawer) := goodIn_app (goodIn_of _ (by decide +kernel)) ggX2_lay_X2_isDrawer
set_option maxRecDepth 20000 in
theorem ggX2_lay_X2_isDay : GoodIn wsX2_lay wsX2_isDay := goodIn_r _ [11] (by decide +kernel) (by decide +kernel)
set_option maxRecDepth 20000 in
theorem gX2_lay_X2_isDay : GoodIn wsX2_lay (va_wsS RX2 91 yX2_isDay wsX2_isDay) := goodIn_app (goodIn_of _ (by decide +kernel)) ggX2_lay_X2_isDay
set_option maxRecDepth 20000 in
theorem ggX2_lay_X2_bitOf : GoodIn wsX2_lay wsX2_bitOf := goodIn_r _ [14] (by decide +kernel) (by decide +kernel)
set_option maxRecDepth 20000 in
theorem gX2_lay_X2_bitOf : GoodIn wsX2_lay (va_wsS RX2 113 yX2_bitOf wsX2_bitOf) := goodIn_app (goodIn_of _ (by decide +kernel)) ggX2_lay_X2_bitOf
theorem dX2_lay_0 : decode cX2_lay 0 = .ok (.aload_n 0, 1) := by decide +kernel
theorem dX2_lay_1 : decode cX2_lay 1 = .ok (.iload_n 1, 1) := by decide +kernel
theorem dX2_lay_2 : decode cX2_lay 2 = .ok (.invokevirtual 62, 3) := by decide +kernel
theorem dX2_lay_5 : decode cX2_lay 5 = .ok (.ifCond .eq 10, 3) := by decide +kernel
theorem dX2_lay_8 : decode cX2_lay 8 = .ok (.iload_n 2, 1) := by decide +kernel
theorem dX2_lay_9 : decode cX2_lay 9 = .ok (.invokestatic 91, 3) := by decide +kernel
theorem dX2_lay_12 : decode cX2_lay 12 = .ok (.ifCond .ne 6, 3) := by decide +kernel
theorem dX2_lay_15 : decode cX2_lay 15 = .ok (.bipush (-101), 2) := by decide +kernel
theorem dX2_lay_17 : decode cX2_lay 17 = .ok (.ireturn, 1) := by decide +kernel
theorem dX2_lay_18 : decode cX2_lay 18 = .ok (.aload_n 0, 1) := by decide +kernel
theorem dX2_lay_19 : decode cX2_lay 19 = .ok (.getfield 19, 3) := by decide +kernel
theorem dX2_lay_22 : decode cX2_lay 22 = .ok (.getfield 72, 3) := by decide +kernel
theorem dX2_lay_25 : decode cX2_lay 25 = .ok (.iload_n 1, 1) := by decide +kernel
theorem dX2_lay_26 : decode cX2_lay 26 = .ok (.iaload, 1) := by decide +kernel
theorem dX2_lay_27 : decode cX2_lay 27 = .ok (.iload_n 2, 1) := by decide +kernel
theorem dX2_lay_28 : decode cX2_lay 28 = .ok (.invokestatic 113, 3) := by decide +kernel
theorem dX2_lay_31 : decode cX2_lay 31 = .ok (.istore 4, 2) := by decide +kernel
theorem dX2_lay_33 : decode cX2_lay 33 = .ok (.iload_n 3, 1) := by decide +kernel
theorem dX2_lay_34 : decode cX2_lay 34 = .ok (.ifCond .eq 21, 3) := by decide +kernel
theorem dX2_lay_37 : decode cX2_lay 37 = .ok (.aload_n 0, 1) := by decide +kernel
theorem dX2_lay_38 : decode cX2_lay 38 = .ok (.getfield 19, 3) := by decide +kernel
theorem dX2_lay_41 : decode cX2_lay 41 = .ok (.getfield 72, 3) := by decide +kernel
theorem dX2_lay_44 : decode cX2_lay 44 = .ok (.iload_n 1, 1) := by decide +kernel
theorem dX2_lay_45 : decode cX2_lay 45 = .ok (.dup2, 1) := by decide +kernel
theorem dX2_lay_46 : decode cX2_lay 46 = .ok (.iaload, 1) := by decide +kernel
theorem dX2_lay_47 : decode cX2_lay 47 = .ok (.iconst 1, 1) := by decide +kernel
theorem dX2_lay_48 : decode cX2_lay 48 = .ok (.iload_n 2, 1) := by decide +kernel
theorem dX2_lay_49 : decode cX2_lay 49 = .ok (.ishl, 1) := by decide +kernel
theorem dX2_lay_50 : decode cX2_lay 50 = .ok (.ior, 1) := by decide +kernel
theorem dX2_lay_51 : decode cX2_lay 51 = .ok (.iastore, 1) := by decide +kernel
theorem dX2_lay_52 : decode cX2_lay 52 = .ok (.goto 20, 3) := by decide +kernel
theorem dX2_lay_55 : decode cX2_lay 55 = .ok (.aload_n 0, 1) := by decide +kernel
theorem dX2_lay_56 : decode cX2_lay 56 = .ok (.getfield 19, 3) := by decide +kernel
theorem dX2_lay_59 : decode cX2_lay 59 = .ok (.getfield 72, 3) := by decide +kernel
theorem dX2_lay_62 : decode cX2_lay 62 = .ok (.iload_n 1, 1) := by decide +kernel
theorem dX2_lay_63 : decode cX2_lay 63 = .ok (.dup2, 1) := by decide +kernel
theorem dX2_lay_64 : decode cX2_lay 64 = .ok (.iaload, 1) := by decide +kernel
theorem dX2_lay_65 : decode cX2_lay 65 = .ok (.iconst 1, 1) := by decide +kernel
theorem dX2_lay_66 : decode cX2_lay 66 = .ok (.iload_n 2, 1) := by decide +kernel
theorem dX2_lay_67 : decode cX2_lay 67 = .ok (.ishl, 1) := by decide +kernel
theorem dX2_lay_68 : decode cX2_lay 68 = .ok (.iconst (-1), 1) := by decide +kernel
theorem dX2_lay_69 : decode cX2_lay 69 = .ok (.ixor, 1) := by decide +kernel
theorem dX2_lay_70 : decode cX2_lay 70 = .ok (.iand, 1) := by decide +kernel
theorem dX2_lay_71 : decode cX2_lay 71 = .ok (.iastore, 1) := by decide +kernel
theorem dX2_lay_72 : decode cX2_lay 72 = .ok (.iload 4, 2) := by decide +kernel
theorem dX2_lay_74 : decode cX2_lay 74 = .ok (.ireturn, 1) := by decide +kernel
set_option maxRecDepth 20000 in
theorem ggX2_agrees_X2_isDrawer : GoodIn wsX2_agrees wsX2_isDrawer := goodIn_r _ [5, 6, 45, 46, 47, 48, 49, 50, 51, 52, 53, 54] (by decide +kernel) (by decide +kernel)
set_option maxRecDepth 20000 in
theorem gX2_agrees_X2_isDrawer : GoodIn wsX2_agrees (wsV RX2 62 RX2 yX2_isDrawer wsX2_isDrawer) := goodIn_app (goodIn_of _ (by decide +kernel)) ggX2_agrees_X2_isDrawer
set_option maxRecDepth 20000 in
theorem ggX2_agrees_X2_courseWithout : GoodIn wsX2_agrees wsX2_courseWithout := goodIn_r _ [10, 11, 12, 13, 14, 15, 16, 17, 18, 19, 20, 4, 21, 22, 23, 24, 25, 26, 27, 28, 29, 30, 31, 32, 33, 34, 35, 36, 37, 38, 39, 40, 45, 46, 47, 48, 49, 50, 51, 52, 53, 54, 55, 56, 57, 58, 59, 60, 61, 62, 63, 64, 65, 66, 67, 68, 69, 70] (by decide +kernel) (by decide +kernel)
set_option maxRecDepth 20000 in
theorem gX2_agrees_X2_courseWithout : GoodIn wsX2_agrees (wsV RX2 123 RX2 yX2_courseWithout wsX2_courseWithout) := goodIn_app (goodIn_of _ (by decide +kernel)) ggX2_agrees_X2_courseWithout
set_option maxRecDepth 20000 in
theorem ggX2_agrees_X0_mustBe : GoodIn wsX2_agrees wsX0_mustBe := goodIn_r _ [44, 31, 32, 30, 29, 64, 65, 66, 67, 68, 69, 70] (by decide +kernel) (by decide +kernel)
set_option maxRecDepth 20000 in
theorem gX2_agrees_X0_mustBe : GoodIn wsX2_agrees (wsV RX2 127 RX0 yX0_mustBe wsX0_mustBe) := goodIn_app (goodIn_of _ (by decide +kernel)) ggX2_agrees_X0_mustBe
theorem dX2_agrees_0 : decode cX2_agrees 0 = .ok (.aload_n 0, 1) := by decide +kernel
theorem dX2_agrees_1 : decode cX2_agrees 1 = .ok (.iload_n 1, 1) := by decide +kernel
theorem dX2_agrees_2 : decode cX2_agrees 2 = .ok (.invokevirtual 62, 3) := by decide +kernel
theorem dX2_agrees_5 : decode cX2_agrees 5 = .ok (.ifCond .ne 6, 3) := by decide +kernel
theorem dX2_agrees_8 : decode cX2_agrees 8 = .ok (.bipush (-101), 2) := by decide +kernel
theorem dX2_agrees_10 : decode cX2_agrees 10 = .ok (.ireturn, 1) := by decide +kernel
theorem dX2_agrees_11 : decode cX2_agrees 11 = .ok (.iload_n 2, 1) := by decide +kernel
theorem dX2_agrees_12 : decode cX2_agrees 12 = .ok (.ifCond .lt 9, 3) := by decide +kernel
theorem dX2_agrees_15 : decode cX2_agrees 15 = .ok (.iload_n 2, 1) := by decide +kernel
theorem dX2_agrees_16 : decode cX2_agrees 16 = .ok (.bipush 127, 2) := by decide +kernel
theorem dX2_agrees_18 : decode cX2_agrees 18 = .ok (.if_icmp .le 6, 3) := by decide +kernel
theorem dX2_agrees_21 : decode cX2_agrees 21 = .ok (.bipush (-102), 2) := by decide +kernel
theorem dX2_agrees_23 : decode cX2_agrees 23 = .ok (.ireturn, 1) := by decide +kernel
theorem dX2_agrees_24 : decode cX2_agrees 24 = .ok (.aload_n 0, 1) := by decide +kernel
theorem dX2_agrees_25 : decode cX2_agrees 25 = .ok (.iconst (-1), 1) := by decide +kernel
theorem dX2_agrees_26 : decode cX2_agrees 26 = .ok (.iload_n 1, 1) := by decide +kernel
theorem dX2_agrees_27 : decode cX2_agrees 27 = .ok (.invokevirtual 123, 3) := by decide +kernel
theorem dX2_agrees_30 : decode cX2_agrees 30 = .ok (.iload_n 2, 1) := by decide +kernel
theorem dX2_agrees_31 : decode cX2_agrees 31 = .ok (.invokevirtual 127, 3) := by decide +kernel
theorem dX2_agrees_34 : decode cX2_agrees 34 = .ok (.iload_n 2, 1) := by decide +kernel
theorem dX2_agrees_35 : decode cX2_agrees 35 = .ok (.if_icmp .ne 7, 3) := by decide +kernel
theorem dX2_agrees_38 : decode cX2_agrees 38 = .ok (.iconst 1, 1) := by decide +kernel
theorem dX2_agrees_39 : decode cX2_agrees 39 = .ok (.goto 4, 3) := by decide +kernel
theorem dX2_agrees_42 : decode cX2_agrees 42 = .ok (.iconst 0, 1) := by decide +kernel
theorem dX2_agrees_43 : decode cX2_agrees 43 = .ok (.ireturn, 1) := by decide +kernel
set_option maxRecDepth 20000 in
theorem ggX2_sure_X2_isDrawer : GoodIn wsX2_sure wsX2_isDrawer := goodIn_r _ [5, 6, 69, 70, 71, 72, 73, 74, 75, 76, 77, 78] (by decide +kernel) (by decide +kernel)
set_option maxRecDepth 20000 in
theorem gX2_sure_X2_isDrawer : GoodIn wsX2_sure (wsV RX2 62 RX2 yX2_isDrawer wsX2_isDrawer) := goodIn_app (goodIn_of _ (by decide +kernel)) ggX2_sure_X2_isDrawer
set_option maxRecDepth 20000 in
theorem ggX2_sure_X2_isDay : GoodIn wsX2_sure wsX2_isDay := goodIn_r _ [9] (by decide +kernel) (by decide +kernel)
set_option maxRecDepth 20000 in
theorem gX2_sure_X2_isDay : GoodIn wsX2_sure (va_wsS RX2 91 yX2_isDay wsX2_isDay) := goodIn_app (goodIn_of _ (by decide +kernel)) ggX2_sure_X2_isDay
set_option maxRecDepth 20000 in
theorem ggX2_sure_X2_courseOf : GoodIn wsX2_sure wsX2_courseOf := goodIn_r _ [13, 14, 15, 16, 4, 17, 18, 19, 20, 21, 22, 23, 24, 25, 26, 27, 28, 29, 30, 31, 32, 33, 34, 35, 36, 37, 38, 39, 40, 41, 42, 43, 44, 45, 46, 47, 48, 49, 50, 51, 52, 53, 54, 55, 56, 57, 58, 59, 60, 61, 62, 69, 70, 71, 72, 73, 74, 75, 76, 77, 78, 79, 80, 81, 82, 83, 84, 85, 86, 87, 88, 89, 90, 91, 92, 93, 94] (by decide +kernel) (by decide +kernel)
set_option maxRecDepth 20000 in
theorem gX2_sure_X2_courseOf : GoodIn wsX2_sure (wsV RX2 75 RX2 yX2_courseOf wsX2_courseOf) := goodIn_app (goodIn_of _ (by decide +kernel)) ggX2_sure_X2_courseOf
set_option maxRecDepth 20000 in
theorem ggX2_sure_X0_sureOn : GoodIn wsX2_sure wsX0_sureOn := goodIn_r _ [66, 54, 52, 53, 67, 4, 68, 88, 89, 90, 91, 92, 93, 94] (by decide +kernel) (by decide +kernel)
set_option maxRecDepth 20000 in
theorem gX2_sure_X0_sureOn : GoodIn wsX2_sure (wsV RX2 130 RX0 yX0_sureOn wsX0_sureOn) := goodIn_app (goodIn_of _ (by decide +kernel)) ggX2_sure_X0_sureOn
theorem dX2_sure_0 : decode cX2_sure 0 = .ok (.aload_n 0, 1) := by decide +kernel
theorem dX2_sure_1 : decode cX2_sure 1 = .ok (.iload_n 1, 1) := by decide +kernel
theorem dX2_sure_2 : decode cX2_sure 2 = .ok (.invokevirtual 62, 3) := by decide +kernel
theorem dX2_sure_5 : decode cX2_sure 5 = .ok (.ifCond .eq 10, 3) := by decide +kernel
theorem dX2_sure_8 : decode cX2_sure 8 = .ok (.iload_n 2, 1) := by decide +kernel
theorem dX2_sure_9 : decode cX2_sure 9 = .ok (.invokestatic 91, 3) := by decide +kernel
theorem dX2_sure_12 : decode cX2_sure 12 = .ok (.ifCond .ne 6, 3) := by decide +kernel
theorem dX2_sure_15 : decode cX2_sure 15 = .ok (.bipush (-101), 2) := by decide +kernel
theorem dX2_sure_17 : decode cX2_sure 17 = .ok (.ireturn, 1) := by decide +kernel
theorem dX2_sure_18 : decode cX2_sure 18 = .ok (.aload_n 0, 1) := by decide +kernel
theorem dX2_sure_19 : decode cX2_sure 19 = .ok (.iload_n 1, 1) := by decide +kernel
theorem dX2_sure_20 : decode cX2_sure 20 = .ok (.invokevirtual 75, 3) := by decide +kernel
theorem dX2_sure_23 : decode cX2_sure 23 = .ok (.iload_n 2, 1) := by decide +kernel
theorem dX2_sure_24 : decode cX2_sure 24 = .ok (.invokevirtual 130, 3) := by decide +kernel
theorem dX2_sure_27 : decode cX2_sure 27 = .ok (.ireturn, 1) := by decide +kernel
set_option maxRecDepth 20000 in
theorem ggX2_few_X2_isDrawer : GoodIn wsX2_few wsX2_isDrawer := goodIn_r _ [6, 7, 72, 73, 74, 75, 76, 77, 78, 79, 80, 81] (by decide +kernel) (by decide +kernel)
set_option maxRecDepth 20000 in
theorem gX2_few_X2_isDrawer : GoodIn wsX2_few (wsV RX2 62 RX2 yX2_isDrawer wsX2_isDrawer) := goodIn_app (goodIn_of _ (by decide +kernel)) ggX2_few_X2_isDrawer
set_option maxRecDepth 20000 in
theorem ggX2_few_X2_courseWithout : GoodIn wsX2_few wsX2_courseWithout := goodIn_r _ [11, 12, 13, 14, 15, 16, 17, 18, 19, 20, 21, 5, 22, 23, 24, 25, 26, 27, 28, 29, 30, 31, 32, 33, 34, 35, 36, 37, 38, 39, 40, 41, 72, 73, 74, 75, 76, 77, 78, 79, 80, 81, 82, 83, 84, 85, 86, 87, 88, 89, 90, 91, 92, 93, 94, 95, 96, 97] (by decide +kernel) (by decide +kernel)
set_option maxRecDepth 20000 in
theorem gX2_few_X2_courseWithout : GoodIn wsX2_few (wsV RX2 123 RX2 yX2_courseWithout wsX2_courseWithout) := goodIn_app (goodIn_of _ (by decide +kernel)) ggX2_few_X2_courseWithout
set_option maxRecDepth 20000 in
theorem ggX2_few_X2_fewestLaid : GoodIn wsX2_few wsX2_fewestLaid := goodIn_r _ [44, 45, 46, 47, 48, 49, 50, 51, 52, 53, 54, 55, 28, 56, 30, 57, 58, 59, 60, 61, 62, 63, 32, 33, 31, 64, 65, 66, 67, 68, 69, 70, 71, 91, 92, 93, 94, 95, 96, 97] (by decide +kernel) (by decide +kernel)
set_option maxRecDepth 20000 in
theorem gX2_few_X2_fewestLaid : GoodIn wsX2_few (va_wsS RX2 136 yX2_fewestLaid wsX2_fewestLaid) := goodIn_app (goodIn_of _ (by decide +kernel)) ggX2_few_X2_fewestLaid
set_option maxRecDepth 20000 in
theorem ggX2_few_J6_bitCount_0f7a4 : GoodIn wsX2_few wsJ6_bitCount_0f7a4 := goodIn_r _ [49, 50, 51, 52] (by decide +kernel) (by decide +kernel)
set_option maxRecDepth 20000 in
theorem gX2_few_J6_bitCount_0f7a4 : GoodIn wsX2_few (va_wsS RX2 140 yJ6_bitCount_0f7a4 wsJ6_bitCount_0f7a4) := goodIn_app (goodIn_of _ (by decide +kernel)) ggX2_few_J6_bitCount_0f7a4
theorem dX2_few_0 : decode cX2_few 0 = .ok (.aload_n 0, 1) := by decide +kernel
theorem dX2_few_1 : decode cX2_few 1 = .ok (.iload_n 1, 1) := by decide +kernel
theorem dX2_few_2 : decode cX2_few 2 = .ok (.invokevirtual 62, 3) := by decide +kernel
theorem dX2_few_5 : decode cX2_few 5 = .ok (.ifCond .ne 6, 3) := by decide +kernel
theorem dX2_few_8 : decode cX2_few 8 = .ok (.bipush (-101), 2) := by decide +kernel
theorem dX2_few_10 : decode cX2_few 10 = .ok (.ireturn, 1) := by decide +kernel
theorem dX2_few_11 : decode cX2_few 11 = .ok (.iload_n 2, 1) := by decide +kernel
theorem dX2_few_12 : decode cX2_few 12 = .ok (.ifCond .lt 18, 3) := by decide +kernel
theorem dX2_few_15 : decode cX2_few 15 = .ok (.iload_n 2, 1) := by decide +kernel
theorem dX2_few_16 : decode cX2_few 16 = .ok (.bipush 127, 2) := by decide +kernel
theorem dX2_few_18 : decode cX2_few 18 = .ok (.if_icmp .gt 12, 3) := by decide +kernel
theorem dX2_few_21 : decode cX2_few 21 = .ok (.iload_n 3, 1) := by decide +kernel
theorem dX2_few_22 : decode cX2_few 22 = .ok (.ifCond .lt 8, 3) := by decide +kernel
theorem dX2_few_25 : decode cX2_few 25 = .ok (.iload_n 3, 1) := by decide +kernel
theorem dX2_few_26 : decode cX2_few 26 = .ok (.iconst 1, 1) := by decide +kernel
theorem dX2_few_27 : decode cX2_few 27 = .ok (.if_icmp .le 6, 3) := by decide +kernel
theorem dX2_few_30 : decode cX2_few 30 = .ok (.bipush (-102), 2) := by decide +kernel
theorem dX2_few_32 : decode cX2_few 32 = .ok (.ireturn, 1) := by decide +kernel
theorem dX2_few_33 : decode cX2_few 33 = .ok (.aload_n 0, 1) := by decide +kernel
theorem dX2_few_34 : decode cX2_few 34 = .ok (.getfield 133, 3) := by decide +kernel
theorem dX2_few_37 : decode cX2_few 37 = .ok (.bipush 40, 2) := by decide +kernel
theorem dX2_few_39 : decode cX2_few 39 = .ok (.if_icmp .lt 6, 3) := by decide +kernel
theorem dX2_few_42 : decode cX2_few 42 = .ok (.bipush (-103), 2) := by decide +kernel
theorem dX2_few_44 : decode cX2_few 44 = .ok (.ireturn, 1) := by decide +kernel
theorem dX2_few_45 : decode cX2_few 45 = .ok (.aload_n 0, 1) := by decide +kernel
theorem dX2_few_46 : decode cX2_few 46 = .ok (.dup, 1) := by decide +kernel
theorem dX2_few_47 : decode cX2_few 47 = .ok (.getfield 133, 3) := by decide +kernel
theorem dX2_few_50 : decode cX2_few 50 = .ok (.iconst 1, 1) := by decide +kernel
theorem dX2_few_51 : decode cX2_few 51 = .ok (.iadd, 1) := by decide +kernel
theorem dX2_few_52 : decode cX2_few 52 = .ok (.putfield 133, 3) := by decide +kernel
theorem dX2_few_55 : decode cX2_few 55 = .ok (.aload_n 0, 1) := by decide +kernel
theorem dX2_few_56 : decode cX2_few 56 = .ok (.iconst (-1), 1) := by decide +kernel
theorem dX2_few_57 : decode cX2_few 57 = .ok (.iload_n 1, 1) := by decide +kernel
theorem dX2_few_58 : decode cX2_few 58 = .ok (.invokevirtual 123, 3) := by decide +kernel
theorem dX2_few_61 : decode cX2_few 61 = .ok (.iload_n 2, 1) := by decide +kernel
theorem dX2_few_62 : decode cX2_few 62 = .ok (.invokestatic 136, 3) := by decide +kernel
theorem dX2_few_65 : decode cX2_few 65 = .ok (.istore 4, 2) := by decide +kernel
theorem dX2_few_67 : decode cX2_few 67 = .ok (.iload 4, 2) := by decide +kernel
theorem dX2_few_69 : decode cX2_few 69 = .ok (.iconst (-1), 1) := by decide +kernel
theorem dX2_few_70 : decode cX2_few 70 = .ok (.if_icmp .eq 8, 3) := by decide +kernel
theorem dX2_few_73 : decode cX2_few 73 = .ok (.iload_n 3, 1) := by decide +kernel
theorem dX2_few_74 : decode cX2_few 74 = .ok (.iconst 1, 1) := by decide +kernel
theorem dX2_few_75 : decode cX2_few 75 = .ok (.if_icmp .ne 6, 3) := by decide +kernel
theorem dX2_few_78 : decode cX2_few 78 = .ok (.iload 4, 2) := by decide +kernel
theorem dX2_few_80 : decode cX2_few 80 = .ok (.ireturn, 1) := by decide +kernel
theorem dX2_few_81 : decode cX2_few 81 = .ok (.iload 4, 2) := by decide +kernel
theorem dX2_few_83 : decode cX2_few 83 = .ok (.invokestatic 140, 3) := by decide +kernel
theorem dX2_few_86 : decode cX2_few 86 = .ok (.ireturn, 1) := by decide +kernel
set_option maxRecDepth 20000 in
theorem ggX2_found_X2_isDrawer : GoodIn wsX2_found wsX2_isDrawer := goodIn_r _ [9, 10, 14, 15, 16, 17, 18, 19, 20, 21, 22, 23] (by decide +kernel) (by decide +kernel)
set_option maxRecDepth 20000 in
theorem gX2_found_X2_isDrawer : GoodIn wsX2_found (wsV RX2 62 RX2 yX2_isDrawer wsX2_isDrawer) := goodIn_app (goodIn_of _ (by decide +kernel)) ggX2_found_X2_isDrawer
set_option maxRecDepth 20000 in
theorem ggX2_found_X2_isDay : GoodIn wsX2_found wsX2_isDay := goodIn_r _ [13] (by decide +kernel) (by decide +kernel)
set_option maxRecDepth 20000 in
theorem gX2_found_X2_isDay : GoodIn wsX2_found (va_wsS RX2 91 yX2_isDay wsX2_isDay) := goodIn_app (goodIn_of _ (by decide +kernel)) ggX2_found_X2_isDay
theorem dX2_found_0 : decode cX2_found 0 = .ok (.aload_n 0, 1) := by decide +kernel
theorem dX2_found_1 : decode cX2_found 1 = .ok (.iload_n 1, 1) := by decide +kernel
theorem dX2_found_2 : decode cX2_found 2 = .ok (.invokevirtual 62, 3) := by decide +kernel
theorem dX2_found_5 : decode cX2_found 5 = .ok (.ifCond .eq 10, 3) := by decide +kernel
theorem dX2_found_8 : decode cX2_found 8 = .ok (.iload_n 2, 1) := by decide +kernel
theorem dX2_found_9 : decode cX2_found 9 = .ok (.invokestatic 91, 3) := by decide +kernel
theorem dX2_found_12 : decode cX2_found 12 = .ok (.ifCond .ne 6, 3) := by decide +kernel
theorem dX2_found_15 : decode cX2_found 15 = .ok (.bipush (-101), 2) := by decide +kernel
theorem dX2_found_17 : decode cX2_found 17 = .ok (.ireturn, 1) := by decide +kernel
theorem dX2_found_18 : decode cX2_found 18 = .ok (.aload_n 0, 1) := by decide +kernel
theorem dX2_found_19 : decode cX2_found 19 = .ok (.getfield 19, 3) := by decide +kernel
theorem dX2_found_22 : decode cX2_found 22 = .ok (.getfield 145, 3) := by decide +kernel
theorem dX2_found_25 : decode cX2_found 25 = .ok (.bipush 8, 2) := by decide +kernel
theorem dX2_found_27 : decode cX2_found 27 = .ok (.if_icmp .lt 6, 3) := by decide +kernel
theorem dX2_found_30 : decode cX2_found 30 = .ok (.bipush (-104), 2) := by decide +kernel
theorem dX2_found_32 : decode cX2_found 32 = .ok (.ireturn, 1) := by decide +kernel
theorem dX2_found_33 : decode cX2_found 33 = .ok (.iload_n 3, 1) := by decide +kernel
theorem dX2_found_34 : decode cX2_found 34 = .ok (.ifCond .eq 21, 3) := by decide +kernel
theorem dX2_found_37 : decode cX2_found 37 = .ok (.aload_n 0, 1) := by decide +kernel
theorem dX2_found_38 : decode cX2_found 38 = .ok (.getfield 19, 3) := by decide +kernel
theorem dX2_found_41 : decode cX2_found 41 = .ok (.getfield 148, 3) := by decide +kernel
theorem dX2_found_44 : decode cX2_found 44 = .ok (.iload_n 1, 1) := by decide +kernel
theorem dX2_found_45 : decode cX2_found 45 = .ok (.dup2, 1) := by decide +kernel
theorem dX2_found_46 : decode cX2_found 46 = .ok (.iaload, 1) := by decide +kernel
theorem dX2_found_47 : decode cX2_found 47 = .ok (.iconst 1, 1) := by decide +kernel
theorem dX2_found_48 : decode cX2_found 48 = .ok (.iload_n 2, 1) := by decide +kernel
theorem dX2_found_49 : decode cX2_found 49 = .ok (.ishl, 1) := by decide +kernel
theorem dX2_found_50 : decode cX2_found 50 = .ok (.ior, 1) := by decide +kernel
theorem dX2_found_51 : decode cX2_found 51 = .ok (.iastore, 1) := by decide +kernel
theorem dX2_found_52 : decode cX2_found 52 = .ok (.goto 18, 3) := by decide +kernel
theorem dX2_found_55 : decode cX2_found 55 = .ok (.aload_n 0, 1) := by decide +kernel
theorem dX2_found_56 : decode cX2_found 56 = .ok (.getfield 19, 3) := by decide +kernel
theorem dX2_found_59 : decode cX2_found 59 = .ok (.getfield 151, 3) := by decide +kernel
theorem dX2_found_62 : decode cX2_found 62 = .ok (.iload_n 1, 1) := by decide +kernel
theorem dX2_found_63 : decode cX2_found 63 = .ok (.dup2, 1) := by decide +kernel
theorem dX2_found_64 : decode cX2_found 64 = .ok (.iaload, 1) := by decide +kernel
theorem dX2_found_65 : decode cX2_found 65 = .ok (.iconst 1, 1) := by decide +kernel
theorem dX2_found_66 : decode cX2_found 66 = .ok (.iload_n 2, 1) := by decide +kernel
theorem dX2_found_67 : decode cX2_found 67 = .ok (.ishl, 1) := by decide +kernel
theorem dX2_found_68 : decode cX2_found 68 = .ok (.ior, 1) := by decide +kernel
theorem dX2_found_69 : decode cX2_found 69 = .ok (.iastore, 1) := by decide +kernel
theorem dX2_found_70 : decode cX2_found 70 = .ok (.aload_n 0, 1) := by decide +kernel
theorem dX2_found_71 : decode cX2_found 71 = .ok (.getfield 19, 3) := by decide +kernel
theorem dX2_found_74 : decode cX2_found 74 = .ok (.dup, 1) := by decide +kernel
theorem dX2_found_75 : decode cX2_found 75 = .ok (.getfield 145, 3) := by decide +kernel
theorem dX2_found_78 : decode cX2_found 78 = .ok (.iconst 1, 1) := by decide +kernel
theorem dX2_found_79 : decode cX2_found 79 = .ok (.iadd, 1) := by decide +kernel
theorem dX2_found_80 : decode cX2_found 80 = .ok (.putfield 145, 3) := by decide +kernel
theorem dX2_found_83 : decode cX2_found 83 = .ok (.aload_n 0, 1) := by decide +kernel
theorem dX2_found_84 : decode cX2_found 84 = .ok (.getfield 19, 3) := by decide +kernel
theorem dX2_found_87 : decode cX2_found 87 = .ok (.getfield 145, 3) := by decide +kernel
theorem dX2_found_90 : decode cX2_found 90 = .ok (.ireturn, 1) := by decide +kernel
set_option maxRecDepth 20000 in
theorem ggX2_forget_X1_clearFound : GoodIn wsX2_forget wsX1_clearFound := goodIn_r _ [7, 8, 9, 10, 21, 22, 23, 24, 25, 26, 27, 28, 29] (by decide +kernel) (by decide +kernel)
set_option maxRecDepth 20000 in
theorem gX2_forget_X1_clearFound : GoodIn wsX2_forget (wsV RX2 154 RX1 yX1_clearFound wsX1_clearFound) := goodIn_app (goodIn_of _ (by decide +kernel)) ggX2_forget_X1_clearFound
theorem dX2_forget_0 : decode cX2_forget 0 = .ok (.aload_n 0, 1) := by decide +kernel
theorem dX2_forget_1 : decode cX2_forget 1 = .ok (.getfield 19, 3) := by decide +kernel
theorem dX2_forget_4 : decode cX2_forget 4 = .ok (.getfield 145, 3) := by decide +kernel
theorem dX2_forget_7 : decode cX2_forget 7 = .ok (.istore_n 1, 1) := by decide +kernel
theorem dX2_forget_8 : decode cX2_forget 8 = .ok (.aload_n 0, 1) := by decide +kernel
theorem dX2_forget_9 : decode cX2_forget 9 = .ok (.getfield 19, 3) := by decide +kernel
theorem dX2_forget_12 : decode cX2_forget 12 = .ok (.invokevirtual 154, 3) := by decide +kernel
theorem dX2_forget_15 : decode cX2_forget 15 = .ok (.iload_n 1, 1) := by decide +kernel
theorem dX2_forget_16 : decode cX2_forget 16 = .ok (.ireturn, 1) := by decide +kernel
set_option maxRecDepth 20000 in
theorem ggX2_delays_X2_isDrawer : GoodIn wsX2_delays wsX2_isDrawer := goodIn_r _ [6, 7, 74, 75, 76, 77, 78, 79, 80, 81, 82, 83] (by decide +kernel) (by decide +kernel)
set_option maxRecDepth 20000 in
theorem gX2_delays_X2_isDrawer : GoodIn wsX2_delays (wsV RX2 62 RX2 yX2_isDrawer wsX2_isDrawer) := goodIn_app (goodIn_of _ (by decide +kernel)) ggX2_delays_X2_isDrawer
set_option maxRecDepth 20000 in
theorem ggX2_delays_X2_courseWithout : GoodIn wsX2_delays wsX2_courseWithout := goodIn_r _ [11, 12, 13, 14, 15, 16, 17, 18, 19, 20, 21, 5, 22, 23, 24, 25, 26, 27, 28, 29, 30, 31, 32, 33, 34, 35, 36, 37, 38, 39, 40, 41, 74, 75, 76, 77, 78, 79, 80, 81, 82, 83, 84, 85, 86, 87, 88, 89, 90, 91, 92, 67, 68, 69, 70, 71, 72, 73] (by decide +kernel) (by decide +kernel)
set_option maxRecDepth 20000 in
theorem gX2_delays_X2_courseWithout : GoodIn wsX2_delays (wsV RX2 123 RX2 yX2_courseWithout wsX2_courseWithout) := goodIn_app (goodIn_of _ (by decide +kernel)) ggX2_delays_X2_courseWithout
set_option maxRecDepth 20000 in
theorem ggX2_delays_X0_settle : GoodIn wsX2_delays wsX0_settle := goodIn_r _ [45, 30, 46, 47, 48, 49, 50, 51, 28, 52, 32, 33, 31, 53, 54, 55, 56, 67, 68, 69, 70, 71, 72, 73] (by decide +kernel) (by decide +kernel)
set_option maxRecDepth 20000 in
theorem gX2_delays_X0_settle : GoodIn wsX2_delays (wsV RX2 160 RX0 yX0_settle wsX0_settle) := goodIn_app (goodIn_of _ (by decide +kernel)) ggX2_delays_X0_settle
set_option maxRecDepth 20000 in
theorem ggX2_delays_X2_isAsFound : GoodIn wsX2_delays wsX2_isAsFound := goodIn_r _ [60, 13, 61, 62, 63, 64, 65, 28, 66, 48, 46, 47, 74, 75, 76, 77, 78, 79, 80, 81, 82, 83, 84, 85, 86, 87, 88, 89, 90, 91, 92, 67, 68, 69, 70, 71, 72, 73] (by decide +kernel) (by decide +kernel)
set_option maxRecDepth 20000 in
theorem gX2_delays_X2_isAsFound : GoodIn wsX2_delays (wsV RX2 163 RX2 yX2_isAsFound wsX2_isAsFound) := goodIn_app (goodIn_of _ (by decide +kernel)) ggX2_delays_X2_isAsFound
theorem dX2_delays_0 : decode cX2_delays 0 = .ok (.aload_n 0, 1) := by decide +kernel
theorem dX2_delays_1 : decode cX2_delays 1 = .ok (.iload_n 1, 1) := by decide +kernel
theorem dX2_delays_2 : decode cX2_delays 2 = .ok (.invokevirtual 62, 3) := by decide +kernel
theorem dX2_delays_5 : decode cX2_delays 5 = .ok (.ifCond .ne 6, 3) := by decide +kernel
theorem dX2_delays_8 : decode cX2_delays 8 = .ok (.bipush (-101), 2) := by decide +kernel
theorem dX2_delays_10 : decode cX2_delays 10 = .ok (.ireturn, 1) := by decide +kernel
theorem dX2_delays_11 : decode cX2_delays 11 = .ok (.aload_n 0, 1) := by decide +kernel
theorem dX2_delays_12 : decode cX2_delays 12 = .ok (.iconst (-1), 1) := by decide +kernel
theorem dX2_delays_13 : decode cX2_delays 13 = .ok (.iload_n 1, 1) := by decide +kernel
theorem dX2_delays_14 : decode cX2_delays 14 = .ok (.invokevirtual 123, 3) := by decide +kernel
theorem dX2_delays_17 : decode cX2_delays 17 = .ok (.astore_n 2, 1) := by decide +kernel
theorem dX2_delays_18 : decode cX2_delays 18 = .ok (.iconst 0, 1) := by decide +kernel
theorem dX2_delays_19 : decode cX2_delays 19 = .ok (.istore_n 3, 1) := by decide +kernel
theorem dX2_delays_20 : decode cX2_delays 20 = .ok (.bipush (-3), 2) := by decide +kernel
theorem dX2_delays_22 : decode cX2_delays 22 = .ok (.istore 4, 2) := by decide +kernel
theorem dX2_delays_24 : decode cX2_delays 24 = .ok (.iload 4, 2) := by decide +kernel
theorem dX2_delays_26 : decode cX2_delays 26 = .ok (.iconst 4, 1) := by decide +kernel
theorem dX2_delays_27 : decode cX2_delays 27 = .ok (.if_icmp .gt 38, 3) := by decide +kernel
theorem dX2_delays_30 : decode cX2_delays 30 = .ok (.aload_n 2, 1) := by decide +kernel
theorem dX2_delays_31 : decode cX2_delays 31 = .ok (.iload 4, 2) := by decide +kernel
theorem dX2_delays_33 : decode cX2_delays 33 = .ok (.putfield 157, 3) := by decide +kernel
theorem dX2_delays_36 : decode cX2_delays 36 = .ok (.aload_n 2, 1) := by decide +kernel
theorem dX2_delays_37 : decode cX2_delays 37 = .ok (.invokevirtual 160, 3) := by decide +kernel
theorem dX2_delays_40 : decode cX2_delays 40 = .ok (.aload_n 0, 1) := by decide +kernel
theorem dX2_delays_41 : decode cX2_delays 41 = .ok (.aload_n 2, 1) := by decide +kernel
theorem dX2_delays_42 : decode cX2_delays 42 = .ok (.iload_n 1, 1) := by decide +kernel
theorem dX2_delays_43 : decode cX2_delays 43 = .ok (.invokevirtual 163, 3) := by decide +kernel
theorem dX2_delays_46 : decode cX2_delays 46 = .ok (.ifCond .eq 13, 3) := by decide +kernel
theorem dX2_delays_49 : decode cX2_delays 49 = .ok (.iload_n 3, 1) := by decide +kernel
theorem dX2_delays_50 : decode cX2_delays 50 = .ok (.iconst 1, 1) := by decide +kernel
theorem dX2_delays_51 : decode cX2_delays 51 = .ok (.iload 4, 2) := by decide +kernel
theorem dX2_delays_53 : decode cX2_delays 53 = .ok (.bipush (-3), 2) := by decide +kernel
theorem dX2_delays_55 : decode cX2_delays 55 = .ok (.isub, 1) := by decide +kernel
theorem dX2_delays_56 : decode cX2_delays 56 = .ok (.ishl, 1) := by decide +kernel
theorem dX2_delays_57 : decode cX2_delays 57 = .ok (.ior, 1) := by decide +kernel
theorem dX2_delays_58 : decode cX2_delays 58 = .ok (.istore_n 3, 1) := by decide +kernel
theorem dX2_delays_59 : decode cX2_delays 59 = .ok (.iinc 4 1, 3) := by decide +kernel
theorem dX2_delays_62 : decode cX2_delays 62 = .ok (.goto (-38), 3) := by decide +kernel
theorem dX2_delays_65 : decode cX2_delays 65 = .ok (.iload_n 3, 1) := by decide +kernel
theorem dX2_delays_66 : decode cX2_delays 66 = .ok (.ireturn, 1) := by decide +kernel
set_option maxRecDepth 20000 in
theorem ggX2_who_X2_isPerson : GoodIn wsX2_who wsX2_isPerson := goodIn_r _ [5, 6, 7, 69, 70, 71, 72, 73, 74, 75, 76, 77, 78, 79, 80, 81, 82, 83, 84, 85, 86, 87] (by decide +kernel) (by decide +kernel)
set_option maxRecDepth 20000 in
theorem gX2_who_X2_isPerson : GoodIn wsX2_who (wsV RX2 106 RX2 yX2_isPerson wsX2_isPerson) := goodIn_app (goodIn_of _ (by decide +kernel)) ggX2_who_X2_isPerson
set_option maxRecDepth 20000 in
theorem ggX2_who_X2_canBe : GoodIn wsX2_who wsX2_canBe := goodIn_r _ [11, 6, 12, 13, 14, 15, 4, 16, 17, 18, 7, 19, 20, 21, 22, 23, 24, 25, 26, 27, 28, 29, 30, 31, 32, 33, 34, 35, 36, 37, 38, 39, 40, 41, 42, 43, 44, 45, 46, 47, 48, 49, 50, 51, 52, 53, 54, 55, 56, 57, 58, 59, 60, 61, 62, 63, 64, 65, 66, 67, 68, 69, 70, 71, 72, 73, 74, 75, 76, 77, 78, 79, 80, 81, 82, 83, 84, 85, 86, 87, 88, 89, 90, 91, 92, 93, 94] (by decide +kernel) (by decide +kernel)
set_option maxRecDepth 20000 in
theorem gX2_who_X2_canBe : GoodIn wsX2_who (wsV RX2 167 RX2 yX2_canBe wsX2_canBe) := goodIn_app (goodIn_of _ (by decide +kernel)) ggX2_who_X2_canBe
theorem dX2_who_0 : decode cX2_who 0 = .ok (.aload_n 0, 1) := by decide +kernel
theorem dX2_who_1 : decode cX2_who 1 = .ok (.iload_n 1, 1) := by decide +kernel
theorem dX2_who_2 : decode cX2_who 2 = .ok (.invokevirtual 106, 3) := by decide +kernel
theorem dX2_who_5 : decode cX2_who 5 = .ok (.ifCond .ne 6, 3) := by decide +kernel
theorem dX2_who_8 : decode cX2_who 8 = .ok (.bipush (-101), 2) := by decide +kernel
theorem dX2_who_10 : decode cX2_who 10 = .ok (.ireturn, 1) := by decide +kernel
theorem dX2_who_11 : decode cX2_who 11 = .ok (.iload_n 2, 1) := by decide +kernel
theorem dX2_who_12 : decode cX2_who 12 = .ok (.ifCond .lt 8, 3) := by decide +kernel
theorem dX2_who_15 : decode cX2_who 15 = .ok (.iload_n 2, 1) := by decide +kernel
theorem dX2_who_16 : decode cX2_who 16 = .ok (.iconst 1, 1) := by decide +kernel
theorem dX2_who_17 : decode cX2_who 17 = .ok (.if_icmp .le 6, 3) := by decide +kernel
theorem dX2_who_20 : decode cX2_who 20 = .ok (.bipush (-102), 2) := by decide +kernel
theorem dX2_who_22 : decode cX2_who 22 = .ok (.ireturn, 1) := by decide +kernel
theorem dX2_who_23 : decode cX2_who 23 = .ok (.iconst 0, 1) := by decide +kernel
theorem dX2_who_24 : decode cX2_who 24 = .ok (.istore_n 3, 1) := by decide +kernel
theorem dX2_who_25 : decode cX2_who 25 = .ok (.iconst (-1), 1) := by decide +kernel
theorem dX2_who_26 : decode cX2_who 26 = .ok (.istore 4, 2) := by decide +kernel
theorem dX2_who_28 : decode cX2_who 28 = .ok (.iconst 0, 1) := by decide +kernel
theorem dX2_who_29 : decode cX2_who 29 = .ok (.istore 5, 2) := by decide +kernel
theorem dX2_who_31 : decode cX2_who 31 = .ok (.iload 5, 2) := by decide +kernel
theorem dX2_who_33 : decode cX2_who 33 = .ok (.iconst 5, 1) := by decide +kernel
theorem dX2_who_34 : decode cX2_who 34 = .ok (.if_icmp .ge 56, 3) := by decide +kernel
theorem dX2_who_37 : decode cX2_who 37 = .ok (.iconst 0, 1) := by decide +kernel
theorem dX2_who_38 : decode cX2_who 38 = .ok (.istore 6, 2) := by decide +kernel
theorem dX2_who_40 : decode cX2_who 40 = .ok (.iload 6, 2) := by decide +kernel
theorem dX2_who_42 : decode cX2_who 42 = .ok (.bipush 7, 2) := by decide +kernel
theorem dX2_who_44 : decode cX2_who 44 = .ok (.if_icmp .ge 40, 3) := by decide +kernel
theorem dX2_who_47 : decode cX2_who 47 = .ok (.aload_n 0, 1) := by decide +kernel
theorem dX2_who_48 : decode cX2_who 48 = .ok (.iload_n 1, 1) := by decide +kernel
theorem dX2_who_49 : decode cX2_who 49 = .ok (.iload 5, 2) := by decide +kernel
theorem dX2_who_51 : decode cX2_who 51 = .ok (.iload 6, 2) := by decide +kernel
theorem dX2_who_53 : decode cX2_who 53 = .ok (.invokevirtual 167, 3) := by decide +kernel
theorem dX2_who_56 : decode cX2_who 56 = .ok (.ifCond .eq 22, 3) := by decide +kernel
theorem dX2_who_59 : decode cX2_who 59 = .ok (.iinc 3 1, 3) := by decide +kernel
theorem dX2_who_62 : decode cX2_who 62 = .ok (.iload 4, 2) := by decide +kernel
theorem dX2_who_64 : decode cX2_who 64 = .ok (.iconst (-1), 1) := by decide +kernel
theorem dX2_who_65 : decode cX2_who 65 = .ok (.if_icmp .ne 13, 3) := by decide +kernel
theorem dX2_who_68 : decode cX2_who 68 = .ok (.bipush 7, 2) := by decide +kernel
theorem dX2_who_70 : decode cX2_who 70 = .ok (.iload 5, 2) := by decide +kernel
theorem dX2_who_72 : decode cX2_who 72 = .ok (.imul, 1) := by decide +kernel
theorem dX2_who_73 : decode cX2_who 73 = .ok (.iload 6, 2) := by decide +kernel
theorem dX2_who_75 : decode cX2_who 75 = .ok (.iadd, 1) := by decide +kernel
theorem dX2_who_76 : decode cX2_who 76 = .ok (.istore 4, 2) := by decide +kernel
theorem dX2_who_78 : decode cX2_who 78 = .ok (.iinc 6 1, 3) := by decide +kernel
theorem dX2_who_81 : decode cX2_who 81 = .ok (.goto (-41), 3) := by decide +kernel
theorem dX2_who_84 : decode cX2_who 84 = .ok (.iinc 5 1, 3) := by decide +kernel
theorem dX2_who_87 : decode cX2_who 87 = .ok (.goto (-56), 3) := by decide +kernel
theorem dX2_who_90 : decode cX2_who 90 = .ok (.iload_n 2, 1) := by decide +kernel
theorem dX2_who_91 : decode cX2_who 91 = .ok (.ifCond .ne 7, 3) := by decide +kernel
theorem dX2_who_94 : decode cX2_who 94 = .ok (.iload_n 3, 1) := by decide +kernel
theorem dX2_who_95 : decode cX2_who 95 = .ok (.goto 5, 3) := by decide +kernel
theorem dX2_who_98 : decode cX2_who 98 = .ok (.iload 4, 2) := by decide +kernel
theorem dX2_who_100 : decode cX2_who 100 = .ok (.ireturn, 1) := by decide +kernel
set_option maxRecDepth 20000 in
theorem ggX2_weeks_X2_courseWithout : GoodIn wsX2_weeks wsX2_courseWithout := goodIn_r _ [8, 9, 10, 11, 12, 13, 14, 15, 16, 17, 18, 7, 19, 20, 21, 22, 23, 24, 25, 26, 27, 28, 29, 30, 31, 32, 33, 34, 35, 36, 37, 38, 63, 64, 65, 66, 67, 68, 69, 70, 71, 72, 80, 81, 82, 83, 84, 85, 86, 87, 88, 73, 74, 75, 76, 77, 78, 79] (by decide +kernel) (by decide +kernel)
set_option maxRecDepth 20000 in
theorem gX2_weeks_X2_courseWithout : GoodIn wsX2_weeks (wsV RX2 123 RX2 yX2_courseWithout wsX2_courseWithout) := goodIn_app (goodIn_of _ (by decide +kernel)) ggX2_weeks_X2_courseWithout
set_option maxRecDepth 20000 in
theorem ggX2_weeks_X2_nextSeed : GoodIn wsX2_weeks wsX2_nextSeed := goodIn_r _ [41, 42, 43] (by decide +kernel) (by decide +kernel)
set_option maxRecDepth 20000 in
theorem gX2_weeks_X2_nextSeed : GoodIn wsX2_weeks (va_wsS RX2 174 yX2_nextSeed wsX2_nextSeed) := goodIn_app (goodIn_of _ (by decide +kernel)) ggX2_weeks_X2_nextSeed
set_option maxRecDepth 20000 in
theorem ggX2_weeks_X2_drawOf : GoodIn wsX2_weeks wsX2_drawOf := goodIn_r _ [46, 47] (by decide +kernel) (by decide +kernel)
set_option maxRecDepth 20000 in
theorem gX2_weeks_X2_drawOf : GoodIn wsX2_weeks (va_wsS RX2 177 yX2_drawOf wsX2_drawOf) := goodIn_app (goodIn_of _ (by decide +kernel)) ggX2_weeks_X2_drawOf
set_option maxRecDepth 20000 in
theorem ggX2_weeks_X0_settle : GoodIn wsX2_weeks wsX0_settle := goodIn_r _ [51, 27, 52, 53, 54, 55, 56, 57, 25, 58, 29, 30, 28, 59, 60, 61, 62, 73, 74, 75, 76, 77, 78, 79] (by decide +kernel) (by decide +kernel)
set_option maxRecDepth 20000 in
theorem gX2_weeks_X0_settle : GoodIn wsX2_weeks (wsV RX2 160 RX0 yX0_settle wsX0_settle) := goodIn_app (goodIn_of _ (by decide +kernel)) ggX2_weeks_X0_settle
theorem dX2_weeks_0 : decode cX2_weeks 0 = .ok (.iload_n 1, 1) := by decide +kernel
theorem dX2_weeks_1 : decode cX2_weeks 1 = .ok (.iconst 1, 1) := by decide +kernel
theorem dX2_weeks_2 : decode cX2_weeks 2 = .ok (.if_icmp .lt 22, 3) := by decide +kernel
theorem dX2_weeks_5 : decode cX2_weeks 5 = .ok (.iload_n 1, 1) := by decide +kernel
theorem dX2_weeks_6 : decode cX2_weeks 6 = .ok (.bipush 12, 2) := by decide +kernel
theorem dX2_weeks_8 : decode cX2_weeks 8 = .ok (.if_icmp .gt 16, 3) := by decide +kernel
theorem dX2_weeks_11 : decode cX2_weeks 11 = .ok (.iload_n 2, 1) := by decide +kernel
theorem dX2_weeks_12 : decode cX2_weeks 12 = .ok (.ifCond .lt 12, 3) := by decide +kernel
theorem dX2_weeks_15 : decode cX2_weeks 15 = .ok (.iload_n 3, 1) := by decide +kernel
theorem dX2_weeks_16 : decode cX2_weeks 16 = .ok (.ifCond .lt 8, 3) := by decide +kernel
theorem dX2_weeks_19 : decode cX2_weeks 19 = .ok (.iload_n 3, 1) := by decide +kernel
theorem dX2_weeks_20 : decode cX2_weeks 20 = .ok (.iconst 1, 1) := by decide +kernel
theorem dX2_weeks_21 : decode cX2_weeks 21 = .ok (.if_icmp .le 6, 3) := by decide +kernel
theorem dX2_weeks_24 : decode cX2_weeks 24 = .ok (.bipush (-102), 2) := by decide +kernel
theorem dX2_weeks_26 : decode cX2_weeks 26 = .ok (.ireturn, 1) := by decide +kernel
theorem dX2_weeks_27 : decode cX2_weeks 27 = .ok (.aload_n 0, 1) := by decide +kernel
theorem dX2_weeks_28 : decode cX2_weeks 28 = .ok (.getfield 49, 3) := by decide +kernel
theorem dX2_weeks_31 : decode cX2_weeks 31 = .ok (.ifCond .ne 6, 3) := by decide +kernel
theorem dX2_weeks_34 : decode cX2_weeks 34 = .ok (.bipush (-103), 2) := by decide +kernel
theorem dX2_weeks_36 : decode cX2_weeks 36 = .ok (.ireturn, 1) := by decide +kernel
theorem dX2_weeks_37 : decode cX2_weeks 37 = .ok (.iload_n 2, 1) := by decide +kernel
theorem dX2_weeks_38 : decode cX2_weeks 38 = .ok (.istore 4, 2) := by decide +kernel
theorem dX2_weeks_40 : decode cX2_weeks 40 = .ok (.iconst 0, 1) := by decide +kernel
theorem dX2_weeks_41 : decode cX2_weeks 41 = .ok (.istore 5, 2) := by decide +kernel
theorem dX2_weeks_43 : decode cX2_weeks 43 = .ok (.iconst 0, 1) := by decide +kernel
theorem dX2_weeks_44 : decode cX2_weeks 44 = .ok (.istore 6, 2) := by decide +kernel
theorem dX2_weeks_46 : decode cX2_weeks 46 = .ok (.iload 6, 2) := by decide +kernel
theorem dX2_weeks_48 : decode cX2_weeks 48 = .ok (.iload_n 1, 1) := by decide +kernel
theorem dX2_weeks_49 : decode cX2_weeks 49 = .ok (.if_icmp .ge 102, 3) := by decide +kernel
theorem dX2_weeks_52 : decode cX2_weeks 52 = .ok (.iconst 0, 1) := by decide +kernel
theorem dX2_weeks_53 : decode cX2_weeks 53 = .ok (.istore 7, 2) := by decide +kernel
theorem dX2_weeks_55 : decode cX2_weeks 55 = .ok (.iload 7, 2) := by decide +kernel
theorem dX2_weeks_57 : decode cX2_weeks 57 = .ok (.bipush 9, 2) := by decide +kernel
theorem dX2_weeks_59 : decode cX2_weeks 59 = .ok (.if_icmp .ge 86, 3) := by decide +kernel
theorem dX2_weeks_62 : decode cX2_weeks 62 = .ok (.aload_n 0, 1) := by decide +kernel
theorem dX2_weeks_63 : decode cX2_weeks 63 = .ok (.iconst (-1), 1) := by decide +kernel
theorem dX2_weeks_64 : decode cX2_weeks 64 = .ok (.iload 7, 2) := by decide +kernel
theorem dX2_weeks_66 : decode cX2_weeks 66 = .ok (.invokevirtual 123, 3) := by decide +kernel
theorem dX2_weeks_69 : decode cX2_weeks 69 = .ok (.astore 8, 2) := by decide +kernel
theorem dX2_weeks_71 : decode cX2_weeks 71 = .ok (.aload 8, 2) := by decide +kernel
theorem dX2_weeks_73 : decode cX2_weeks 73 = .ok (.iconst 0, 1) := by decide +kernel
theorem dX2_weeks_74 : decode cX2_weeks 74 = .ok (.putfield 171, 3) := by decide +kernel
theorem dX2_weeks_77 : decode cX2_weeks 77 = .ok (.iconst 0, 1) := by decide +kernel
theorem dX2_weeks_78 : decode cX2_weeks 78 = .ok (.istore 9, 2) := by decide +kernel
theorem dX2_weeks_80 : decode cX2_weeks 80 = .ok (.iload 9, 2) := by decide +kernel
theorem dX2_weeks_82 : decode cX2_weeks 82 = .ok (.bipush 7, 2) := by decide +kernel
theorem dX2_weeks_84 : decode cX2_weeks 84 = .ok (.if_icmp .ge 39, 3) := by decide +kernel
theorem dX2_weeks_87 : decode cX2_weeks 87 = .ok (.iload 4, 2) := by decide +kernel
theorem dX2_weeks_89 : decode cX2_weeks 89 = .ok (.invokestatic 174, 3) := by decide +kernel
theorem dX2_weeks_92 : decode cX2_weeks 92 = .ok (.istore 4, 2) := by decide +kernel
theorem dX2_weeks_94 : decode cX2_weeks 94 = .ok (.iload 4, 2) := by decide +kernel
theorem dX2_weeks_96 : decode cX2_weeks 96 = .ok (.iconst 4, 1) := by decide +kernel
theorem dX2_weeks_97 : decode cX2_weeks 97 = .ok (.invokestatic 177, 3) := by decide +kernel
theorem dX2_weeks_100 : decode cX2_weeks 100 = .ok (.ifCond .ne 17, 3) := by decide +kernel
theorem dX2_weeks_103 : decode cX2_weeks 103 = .ok (.aload 8, 2) := by decide +kernel
theorem dX2_weeks_105 : decode cX2_weeks 105 = .ok (.dup, 1) := by decide +kernel
theorem dX2_weeks_106 : decode cX2_weeks 106 = .ok (.getfield 171, 3) := by decide +kernel
theorem dX2_weeks_109 : decode cX2_weeks 109 = .ok (.iconst 1, 1) := by decide +kernel
theorem dX2_weeks_110 : decode cX2_weeks 110 = .ok (.iload 9, 2) := by decide +kernel
theorem dX2_weeks_112 : decode cX2_weeks 112 = .ok (.ishl, 1) := by decide +kernel
theorem dX2_weeks_113 : decode cX2_weeks 113 = .ok (.ior, 1) := by decide +kernel
theorem dX2_weeks_114 : decode cX2_weeks 114 = .ok (.putfield 171, 3) := by decide +kernel
theorem dX2_weeks_117 : decode cX2_weeks 117 = .ok (.iinc 9 1, 3) := by decide +kernel
theorem dX2_weeks_120 : decode cX2_weeks 120 = .ok (.goto (-40), 3) := by decide +kernel
theorem dX2_weeks_123 : decode cX2_weeks 123 = .ok (.aload 8, 2) := by decide +kernel
theorem dX2_weeks_125 : decode cX2_weeks 125 = .ok (.invokevirtual 160, 3) := by decide +kernel
theorem dX2_weeks_128 : decode cX2_weeks 128 = .ok (.aload 8, 2) := by decide +kernel
theorem dX2_weeks_130 : decode cX2_weeks 130 = .ok (.getfield 180, 3) := by decide +kernel
theorem dX2_weeks_133 : decode cX2_weeks 133 = .ok (.ifCond .eq 6, 3) := by decide +kernel
theorem dX2_weeks_136 : decode cX2_weeks 136 = .ok (.iinc 5 1, 3) := by decide +kernel
theorem dX2_weeks_139 : decode cX2_weeks 139 = .ok (.iinc 7 1, 3) := by decide +kernel
theorem dX2_weeks_142 : decode cX2_weeks 142 = .ok (.goto (-87), 3) := by decide +kernel
theorem dX2_weeks_145 : decode cX2_weeks 145 = .ok (.iinc 6 1, 3) := by decide +kernel
theorem dX2_weeks_148 : decode cX2_weeks 148 = .ok (.goto (-102), 3) := by decide +kernel
theorem dX2_weeks_151 : decode cX2_weeks 151 = .ok (.iload_n 3, 1) := by decide +kernel
theorem dX2_weeks_152 : decode cX2_weeks 152 = .ok (.ifCond .ne 8, 3) := by decide +kernel
theorem dX2_weeks_155 : decode cX2_weeks 155 = .ok (.iload 5, 2) := by decide +kernel
theorem dX2_weeks_157 : decode cX2_weeks 157 = .ok (.goto 5, 3) := by decide +kernel
theorem dX2_weeks_160 : decode cX2_weeks 160 = .ok (.iload 4, 2) := by decide +kernel
theorem dX2_weeks_162 : decode cX2_weeks 162 = .ok (.ireturn, 1) := by decide +kernel
set_option maxRecDepth 20000 in
theorem ggX2_image_X1_takeFrom : GoodIn wsX2_image wsX1_takeFrom := goodIn_r _ [10, 11, 12, 13, 14, 15, 16, 17, 18, 19, 30, 31, 32, 33, 34, 35, 36, 37, 38] (by decide +kernel) (by decide +kernel)
set_option maxRecDepth 20000 in
theorem gX2_image_X1_takeFrom : GoodIn wsX2_image (wsV RX2 183 RX1 yX1_takeFrom wsX1_takeFrom) := goodIn_app (goodIn_of _ (by decide +kernel)) ggX2_image_X1_takeFrom
theorem dX2_image_0 : decode cX2_image 0 = .ok (.aload_n 0, 1) := by decide +kernel
theorem dX2_image_1 : decode cX2_image 1 = .ok (.getfield 49, 3) := by decide +kernel
theorem dX2_image_4 : decode cX2_image 4 = .ok (.ifCond .ne 6, 3) := by decide +kernel
theorem dX2_image_7 : decode cX2_image 7 = .ok (.bipush (-103), 2) := by decide +kernel
theorem dX2_image_9 : decode cX2_image 9 = .ok (.ireturn, 1) := by decide +kernel
theorem dX2_image_10 : decode cX2_image 10 = .ok (.aload_n 0, 1) := by decide +kernel
theorem dX2_image_11 : decode cX2_image 11 = .ok (.getfield 23, 3) := by decide +kernel
theorem dX2_image_14 : decode cX2_image 14 = .ok (.aload_n 0, 1) := by decide +kernel
theorem dX2_image_15 : decode cX2_image 15 = .ok (.getfield 19, 3) := by decide +kernel
theorem dX2_image_18 : decode cX2_image 18 = .ok (.invokevirtual 183, 3) := by decide +kernel
theorem dX2_image_21 : decode cX2_image 21 = .ok (.aload_n 0, 1) := by decide +kernel
theorem dX2_image_22 : decode cX2_image 22 = .ok (.iconst 1, 1) := by decide +kernel
theorem dX2_image_23 : decode cX2_image 23 = .ok (.putfield 53, 3) := by decide +kernel
theorem dX2_image_26 : decode cX2_image 26 = .ok (.aload_n 0, 1) := by decide +kernel
theorem dX2_image_27 : decode cX2_image 27 = .ok (.getfield 23, 3) := by decide +kernel
theorem dX2_image_30 : decode cX2_image 30 = .ok (.getfield 94, 3) := by decide +kernel
theorem dX2_image_33 : decode cX2_image 33 = .ok (.ireturn, 1) := by decide +kernel
set_option maxRecDepth 20000 in
theorem ggX2_restore_X1_takeFrom : GoodIn wsX2_restore wsX1_takeFrom := goodIn_r _ [9, 10, 11, 12, 13, 14, 15, 16, 17, 18, 29, 30, 31, 32, 33, 34, 35, 36, 37] (by decide +kernel) (by decide +kernel)
set_option maxRecDepth 20000 in
theorem gX2_restore_X1_takeFrom : GoodIn wsX2_restore (wsV RX2 183 RX1 yX1_takeFrom wsX1_takeFrom) := goodIn_app (goodIn_of _ (by decide +kernel)) ggX2_restore_X1_takeFrom
theorem dX2_restore_0 : decode cX2_restore 0 = .ok (.aload_n 0, 1) := by decide +kernel
theorem dX2_restore_1 : decode cX2_restore 1 = .ok (.getfield 53, 3) := by decide +kernel
theorem dX2_restore_4 : decode cX2_restore 4 = .ok (.ifCond .ne 6, 3) := by decide +kernel
theorem dX2_restore_7 : decode cX2_restore 7 = .ok (.bipush (-103), 2) := by decide +kernel
theorem dX2_restore_9 : decode cX2_restore 9 = .ok (.ireturn, 1) := by decide +kernel
theorem dX2_restore_10 : decode cX2_restore 10 = .ok (.aload_n 0, 1) := by decide +kernel
theorem dX2_restore_11 : decode cX2_restore 11 = .ok (.getfield 19, 3) := by decide +kernel
theorem dX2_restore_14 : decode cX2_restore 14 = .ok (.aload_n 0, 1) := by decide +kernel
theorem dX2_restore_15 : decode cX2_restore 15 = .ok (.getfield 23, 3) := by decide +kernel
theorem dX2_restore_18 : decode cX2_restore 18 = .ok (.invokevirtual 183, 3) := by decide +kernel
theorem dX2_restore_21 : decode cX2_restore 21 = .ok (.aload_n 0, 1) := by decide +kernel
theorem dX2_restore_22 : decode cX2_restore 22 = .ok (.getfield 19, 3) := by decide +kernel
theorem dX2_restore_25 : decode cX2_restore 25 = .ok (.getfield 94, 3) := by decide +kernel
theorem dX2_restore_28 : decode cX2_restore 28 = .ok (.ireturn, 1) := by decide +kernel
set_option maxRecDepth 20000 in
theorem ggX2_count_X2_drawersThatAgree : GoodIn wsX2_count wsX2_drawersThatAgree := goodIn_r _ [12, 13, 14, 15, 16, 17, 11, 18, 19, 20, 21, 22, 23, 1, 24, 3, 25, 26, 27, 28, 29, 30, 31, 2, 32, 33, 34, 35, 36, 37, 38, 39, 40, 41, 42, 43, 44, 45, 46, 47, 48, 49, 50, 51, 52, 53, 54, 55, 56, 57, 58, 59, 60, 61, 62, 63, 64, 78, 79, 80, 81, 82, 83, 84, 85, 86, 87, 97, 98, 99, 100, 101, 102, 103, 88, 89, 90, 91, 92, 93, 94, 95, 96] (by decide +kernel) (by decide +kernel)
set_option maxRecDepth 20000 in
theorem gX2_count_X2_drawersThatAgree : GoodIn wsX2_count (wsV RX2 187 RX2 yX2_drawersThatAgree wsX2_drawersThatAgree) := goodIn_app (goodIn_of _ (by decide +kernel)) ggX2_count_X2_drawersThatAgree
set_option maxRecDepth 20000 in
theorem ggX2_count_X1_thingsLaid : GoodIn wsX2_count wsX1_thingsLaid := goodIn_r _ [69, 70, 71, 72, 73, 74, 75, 76, 77, 88, 89, 90, 91, 92, 93, 94, 95, 96] (by decide +kernel) (by decide +kernel)
set_option maxRecDepth 20000 in
theorem gX2_count_X1_thingsLaid : GoodIn wsX2_count (wsV RX2 190 RX1 yX1_thingsLaid wsX1_thingsLaid) := goodIn_app (goodIn_of _ (by decide +kernel)) ggX2_count_X1_thingsLaid
theorem dX2_count_0 : decode cX2_count 0 = .ok (.iload_n 1, 1) := by decide +kernel
theorem dX2_count_1 : decode cX2_count 1 = .ok (.tableswitch 99 0 7 #[47, 52, 60, 68, 76, 84, 89, 94], 47) := by decide +kernel
theorem dX2_count_48 : decode cX2_count 48 = .ok (.aload_n 0, 1) := by decide +kernel
theorem dX2_count_49 : decode cX2_count 49 = .ok (.invokevirtual 187, 3) := by decide +kernel
theorem dX2_count_52 : decode cX2_count 52 = .ok (.ireturn, 1) := by decide +kernel
theorem dX2_count_53 : decode cX2_count 53 = .ok (.aload_n 0, 1) := by decide +kernel
theorem dX2_count_54 : decode cX2_count 54 = .ok (.getfield 19, 3) := by decide +kernel
theorem dX2_count_57 : decode cX2_count 57 = .ok (.getfield 59, 3) := by decide +kernel
theorem dX2_count_60 : decode cX2_count 60 = .ok (.ireturn, 1) := by decide +kernel
theorem dX2_count_61 : decode cX2_count 61 = .ok (.aload_n 0, 1) := by decide +kernel
theorem dX2_count_62 : decode cX2_count 62 = .ok (.getfield 19, 3) := by decide +kernel
theorem dX2_count_65 : decode cX2_count 65 = .ok (.getfield 94, 3) := by decide +kernel
theorem dX2_count_68 : decode cX2_count 68 = .ok (.ireturn, 1) := by decide +kernel
theorem dX2_count_69 : decode cX2_count 69 = .ok (.aload_n 0, 1) := by decide +kernel
theorem dX2_count_70 : decode cX2_count 70 = .ok (.getfield 19, 3) := by decide +kernel
theorem dX2_count_73 : decode cX2_count 73 = .ok (.invokevirtual 190, 3) := by decide +kernel
theorem dX2_count_76 : decode cX2_count 76 = .ok (.ireturn, 1) := by decide +kernel
theorem dX2_count_77 : decode cX2_count 77 = .ok (.aload_n 0, 1) := by decide +kernel
theorem dX2_count_78 : decode cX2_count 78 = .ok (.getfield 19, 3) := by decide +kernel
theorem dX2_count_81 : decode cX2_count 81 = .ok (.getfield 145, 3) := by decide +kernel
theorem dX2_count_84 : decode cX2_count 84 = .ok (.ireturn, 1) := by decide +kernel
theorem dX2_count_85 : decode cX2_count 85 = .ok (.aload_n 0, 1) := by decide +kernel
theorem dX2_count_86 : decode cX2_count 86 = .ok (.getfield 33, 3) := by decide +kernel
theorem dX2_count_89 : decode cX2_count 89 = .ok (.ireturn, 1) := by decide +kernel
theorem dX2_count_90 : decode cX2_count 90 = .ok (.aload_n 0, 1) := by decide +kernel
theorem dX2_count_91 : decode cX2_count 91 = .ok (.getfield 56, 3) := by decide +kernel
theorem dX2_count_94 : decode cX2_count 94 = .ok (.ireturn, 1) := by decide +kernel
theorem dX2_count_95 : decode cX2_count 95 = .ok (.aload_n 0, 1) := by decide +kernel
theorem dX2_count_96 : decode cX2_count 96 = .ok (.getfield 133, 3) := by decide +kernel
theorem dX2_count_99 : decode cX2_count 99 = .ok (.ireturn, 1) := by decide +kernel
theorem dX2_count_100 : decode cX2_count 100 = .ok (.bipush (-102), 2) := by decide +kernel
theorem dX2_count_102 : decode cX2_count 102 = .ok (.ireturn, 1) := by decide +kernel
set_option maxRecDepth 20000 in
theorem ggX2_digest_X2_digestOfDrawer : GoodIn wsX2_digest wsX2_digestOfDrawer := goodIn_r _ [12, 7, 13, 14, 15, 11, 16, 17, 3, 18, 19, 20, 21, 22, 2, 23, 24, 25, 26, 27, 28, 29, 30, 31, 32, 33, 34, 35, 36, 37, 38, 39, 40, 41, 42, 43, 4, 44, 45, 46, 47, 48, 49, 50, 51, 52, 53, 54, 55, 56, 57, 58, 59, 60, 61, 62, 63, 64, 65, 66, 67, 68, 69, 70, 71, 72, 73, 74, 75, 76, 77, 78, 79, 80, 81, 82, 83, 84, 85, 86, 87, 88, 89, 90, 91, 92, 93, 94, 95, 96, 97, 98, 99, 100, 101, 102, 103, 104, 105, 106, 107, 108, 109, 110, 111, 112, 113, 114, 115, 116, 117, 118, 119, 120, 121, 122, 123, 124, 125, 167, 168, 169, 170, 171, 172, 173, 174, 175, 176, 177, 178, 179, 180, 181, 182, 183, 184, 185, 186, 187, 188, 189, 190, 191, 192] (by decide +kernel) (by decide +kernel)
set_option maxRecDepth 20000 in
theorem gX2_digest_X2_digestOfDrawer : GoodIn wsX2_digest (wsV RX2 195 RX2 yX2_digestOfDrawer wsX2_digestOfDrawer) := goodIn_app (goodIn_of _ (by decide +kernel)) ggX2_digest_X2_digestOfDrawer
set_option maxRecDepth 20000 in
theorem ggX2_digest_X2_digestOfPerson : GoodIn wsX2_digest wsX2_digestOfPerson := goodIn_r _ [129, 7, 130, 131, 132, 11, 133, 3, 45, 46, 44, 134, 135, 136, 137, 4, 138, 60, 61, 139, 94, 95, 140, 62, 63, 141, 142, 143, 144, 145, 146, 147, 148, 39, 40, 41, 42, 43, 18, 23, 24, 25, 26, 27, 17, 47, 48, 49, 50, 51, 52, 53, 54, 55, 56, 57, 58, 59, 64, 65, 66, 67, 68, 69, 70, 71, 72, 73, 74, 75, 76, 77, 78, 116, 117, 118, 119, 120, 121, 122, 123, 124, 125, 167, 168, 169, 170, 171, 172, 173, 174, 175, 176, 177, 178, 179, 180, 181, 182, 183, 184, 185, 186, 187, 188, 189, 190, 191, 192] (by decide +kernel) (by decide +kernel)
set_option maxRecDepth 20000 in
theorem gX2_digest_X2_digestOfPerson : GoodIn wsX2_digest (wsV RX2 199 RX2 yX2_digestOfPerson wsX2_digestOfPerson) := goodIn_app (goodIn_of _ (by decide +kernel)) ggX2_digest_X2_digestOfPerson
set_option maxRecDepth 20000 in
theorem ggX2_digest_X2_count : GoodIn wsX2_digest wsX2_count := goodIn_r _ [152, 3, 27, 4, 153, 5, 154, 155, 156, 157, 158, 11, 159, 2, 160, 35, 36, 37, 38, 39, 40, 41, 42, 43, 18, 44, 45, 46, 23, 24, 25, 26, 17, 47, 48, 49, 50, 51, 52, 53, 54, 55, 56, 57, 58, 59, 60, 61, 62, 63, 64, 65, 66, 67, 68, 69, 70, 71, 72, 73, 74, 75, 76, 77, 78, 161, 162, 163, 31, 164, 165, 166, 84, 85, 86, 87, 88, 89, 167, 168, 169, 170, 171, 172, 173, 174, 175, 176, 177, 178, 179, 180, 181, 182, 183, 184, 185, 186, 187, 188, 189, 190, 191, 192] (by decide +kernel) (by decide +kernel)
set_option maxRecDepth 20000 in
theorem gX2_digest_X2_count : GoodIn wsX2_digest (wsV RX2 204 RX2 yX2_count wsX2_count) := goodIn_app (goodIn_of _ (by decide +kernel)) ggX2_digest_X2_count
theorem dX2_digest_0 : decode cX2_digest 0 = .ok (.ldc2_w 193, 3) := by decide +kernel
theorem dX2_digest_3 : decode cX2_digest 3 = .ok (.lstore_n 1, 1) := by decide +kernel
theorem dX2_digest_4 : decode cX2_digest 4 = .ok (.aload_n 0, 1) := by decide +kernel
theorem dX2_digest_5 : decode cX2_digest 5 = .ok (.getfield 49, 3) := by decide +kernel
theorem dX2_digest_8 : decode cX2_digest 8 = .ok (.ifCond .eq 24, 3) := by decide +kernel
theorem dX2_digest_11 : decode cX2_digest 11 = .ok (.iconst 0, 1) := by decide +kernel
theorem dX2_digest_12 : decode cX2_digest 12 = .ok (.istore_n 3, 1) := by decide +kernel
theorem dX2_digest_13 : decode cX2_digest 13 = .ok (.iload_n 3, 1) := by decide +kernel
theorem dX2_digest_14 : decode cX2_digest 14 = .ok (.bipush 9, 2) := by decide +kernel
theorem dX2_digest_16 : decode cX2_digest 16 = .ok (.if_icmp .ge 16, 3) := by decide +kernel
theorem dX2_digest_19 : decode cX2_digest 19 = .ok (.aload_n 0, 1) := by decide +kernel
theorem dX2_digest_20 : decode cX2_digest 20 = .ok (.lload_n 1, 1) := by decide +kernel
theorem dX2_digest_21 : decode cX2_digest 21 = .ok (.iload_n 3, 1) := by decide +kernel
theorem dX2_digest_22 : decode cX2_digest 22 = .ok (.invokevirtual 195, 3) := by decide +kernel
theorem dX2_digest_25 : decode cX2_digest 25 = .ok (.lstore_n 1, 1) := by decide +kernel
theorem dX2_digest_26 : decode cX2_digest 26 = .ok (.iinc 3 1, 3) := by decide +kernel
theorem dX2_digest_29 : decode cX2_digest 29 = .ok (.goto (-16), 3) := by decide +kernel
theorem dX2_digest_32 : decode cX2_digest 32 = .ok (.iconst 0, 1) := by decide +kernel
theorem dX2_digest_33 : decode cX2_digest 33 = .ok (.istore_n 3, 1) := by decide +kernel
theorem dX2_digest_34 : decode cX2_digest 34 = .ok (.iload_n 3, 1) := by decide +kernel
theorem dX2_digest_35 : decode cX2_digest 35 = .ok (.aload_n 0, 1) := by decide +kernel
theorem dX2_digest_36 : decode cX2_digest 36 = .ok (.getfield 19, 3) := by decide +kernel
theorem dX2_digest_39 : decode cX2_digest 39 = .ok (.getfield 94, 3) := by decide +kernel
theorem dX2_digest_42 : decode cX2_digest 42 = .ok (.if_icmp .ge 16, 3) := by decide +kernel
theorem dX2_digest_45 : decode cX2_digest 45 = .ok (.aload_n 0, 1) := by decide +kernel
theorem dX2_digest_46 : decode cX2_digest 46 = .ok (.lload_n 1, 1) := by decide +kernel
theorem dX2_digest_47 : decode cX2_digest 47 = .ok (.iload_n 3, 1) := by decide +kernel
theorem dX2_digest_48 : decode cX2_digest 48 = .ok (.invokevirtual 199, 3) := by decide +kernel
theorem dX2_digest_51 : decode cX2_digest 51 = .ok (.lstore_n 1, 1) := by decide +kernel
theorem dX2_digest_52 : decode cX2_digest 52 = .ok (.iinc 3 1, 3) := by decide +kernel
theorem dX2_digest_55 : decode cX2_digest 55 = .ok (.goto (-21), 3) := by decide +kernel
theorem dX2_digest_58 : decode cX2_digest 58 = .ok (.iconst 0, 1) := by decide +kernel
theorem dX2_digest_59 : decode cX2_digest 59 = .ok (.istore_n 3, 1) := by decide +kernel
theorem dX2_digest_60 : decode cX2_digest 60 = .ok (.iload_n 3, 1) := by decide +kernel
theorem dX2_digest_61 : decode cX2_digest 61 = .ok (.aload_n 0, 1) := by decide +kernel
theorem dX2_digest_62 : decode cX2_digest 62 = .ok (.getfield 33, 3) := by decide +kernel
theorem dX2_digest_65 : decode cX2_digest 65 = .ok (.if_icmp .ge 32, 3) := by decide +kernel
theorem dX2_digest_68 : decode cX2_digest 68 = .ok (.iload_n 3, 1) := by decide +kernel
theorem dX2_digest_69 : decode cX2_digest 69 = .ok (.aload_n 0, 1) := by decide +kernel
theorem dX2_digest_70 : decode cX2_digest 70 = .ok (.getfield 9, 3) := by decide +kernel
theorem dX2_digest_73 : decode cX2_digest 73 = .ok (.arraylength, 1) := by decide +kernel
theorem dX2_digest_74 : decode cX2_digest 74 = .ok (.if_icmp .ge 23, 3) := by decide +kernel
theorem dX2_digest_77 : decode cX2_digest 77 = .ok (.ldc2_w 202, 3) := by decide +kernel
theorem dX2_digest_80 : decode cX2_digest 80 = .ok (.lload_n 1, 1) := by decide +kernel
theorem dX2_digest_81 : decode cX2_digest 81 = .ok (.lmul, 1) := by decide +kernel
theorem dX2_digest_82 : decode cX2_digest 82 = .ok (.aload_n 0, 1) := by decide +kernel
theorem dX2_digest_83 : decode cX2_digest 83 = .ok (.getfield 9, 3) := by decide +kernel
theorem dX2_digest_86 : decode cX2_digest 86 = .ok (.iload_n 3, 1) := by decide +kernel
theorem dX2_digest_87 : decode cX2_digest 87 = .ok (.iaload, 1) := by decide +kernel
theorem dX2_digest_88 : decode cX2_digest 88 = .ok (.i2l, 1) := by decide +kernel
theorem dX2_digest_89 : decode cX2_digest 89 = .ok (.ladd, 1) := by decide +kernel
theorem dX2_digest_90 : decode cX2_digest 90 = .ok (.lstore_n 1, 1) := by decide +kernel
theorem dX2_digest_91 : decode cX2_digest 91 = .ok (.iinc 3 1, 3) := by decide +kernel
theorem dX2_digest_94 : decode cX2_digest 94 = .ok (.goto (-34), 3) := by decide +kernel
theorem dX2_digest_97 : decode cX2_digest 97 = .ok (.iconst 0, 1) := by decide +kernel
theorem dX2_digest_98 : decode cX2_digest 98 = .ok (.istore_n 3, 1) := by decide +kernel
theorem dX2_digest_99 : decode cX2_digest 99 = .ok (.iload_n 3, 1) := by decide +kernel
theorem dX2_digest_100 : decode cX2_digest 100 = .ok (.bipush 7, 2) := by decide +kernel
theorem dX2_digest_102 : decode cX2_digest 102 = .ok (.if_icmp .gt 22, 3) := by decide +kernel
theorem dX2_digest_105 : decode cX2_digest 105 = .ok (.ldc2_w 202, 3) := by decide +kernel
theorem dX2_digest_108 : decode cX2_digest 108 = .ok (.lload_n 1, 1) := by decide +kernel
theorem dX2_digest_109 : decode cX2_digest 109 = .ok (.lmul, 1) := by decide +kernel
theorem dX2_digest_110 : decode cX2_digest 110 = .ok (.aload_n 0, 1) := by decide +kernel
theorem dX2_digest_111 : decode cX2_digest 111 = .ok (.iload_n 3, 1) := by decide +kernel
end
section
theorem dX2_digest_112 : decode cX2_digest 112 = .ok (.invokevirtual 204, 3) := by decide +kernel
theorem dX2_digest_115 : decode cX2_digest 115 = .ok (.i2l, 1) := by decide +kernel
theorem dX2_digest_116 : decode cX2_digest 116 = .ok (.ladd, 1) := by decide +kernel
theorem dX2_digest_117 : decode cX2_digest 117 = .ok (.lstore_n 1, 1) := by decide +kernel
theorem dX2_digest_118 : decode cX2_digest 118 = .ok (.iinc 3 1, 3) := by decide +kernel
theorem dX2_digest_121 : decode cX2_digest 121 = .ok (.goto (-22), 3) := by decide +kernel
theorem dX2_digest_124 : decode cX2_digest 124 = .ok (.lload_n 1, 1) := by decide +kernel
theorem dX2_digest_125 : decode cX2_digest 125 = .ok (.lreturn, 1) := by decide +kernel
set_option maxRecDepth 20000 in
theorem ggX2_digestOfDrawer_X2_drawer : GoodIn wsX2_digestOfDrawer wsX2_drawer := goodIn_r _ [6, 7, 8, 9, 10, 11, 12, 5, 13, 14, 15, 16, 17, 18, 19, 20, 21, 22, 23, 24, 25, 26, 27, 28, 29, 30, 31, 32, 33, 34, 35, 36, 37, 38, 39, 40, 41, 42, 43, 44, 45, 46, 47, 48, 49, 50, 51, 52, 53, 54, 55, 56, 57, 58, 59, 60, 61, 62, 63, 64, 65, 66, 67, 68, 69, 70, 71, 72, 73, 74, 75, 76, 77, 78, 79, 80, 81, 82, 83, 84, 85, 86, 87, 88, 89, 90, 91, 92, 119, 120, 121, 122, 123, 124, 125, 126, 127, 128, 129, 130, 131, 132, 133, 134, 135, 136, 137, 138, 139, 140, 141, 142, 143, 144] (by decide +kernel) (by decide +kernel)
set_option maxRecDepth 20000 in
theorem gX2_digestOfDrawer_X2_drawer : GoodIn wsX2_digestOfDrawer (wsV RX2 207 RX2 yX2_drawer wsX2_drawer) := goodIn_app (goodIn_of _ (by decide +kernel)) ggX2_digestOfDrawer_X2_drawer
set_option maxRecDepth 20000 in
theorem ggX2_digestOfDrawer_X2_sure : GoodIn wsX2_digestOfDrawer wsX2_sure := goodIn_r _ [96, 10, 11, 12, 5, 13, 14, 97, 98, 99, 27, 28, 29, 30, 31, 32, 33, 34, 35, 8, 9, 36, 37, 38, 39, 15, 16, 17, 18, 19, 7, 40, 41, 42, 43, 44, 45, 46, 47, 48, 49, 50, 51, 52, 53, 54, 55, 56, 57, 58, 59, 60, 61, 62, 63, 64, 65, 66, 67, 68, 69, 70, 71, 100, 101, 102, 103, 87, 88, 119, 120, 121, 122, 123, 124, 125, 126, 127, 128, 129, 130, 131, 132, 133, 134, 135, 136, 137, 138, 139, 140, 141, 142, 143, 144] (by decide +kernel) (by decide +kernel)
set_option maxRecDepth 20000 in
theorem gX2_digestOfDrawer_X2_sure : GoodIn wsX2_digestOfDrawer (wsV RX2 210 RX2 yX2_sure wsX2_sure) := goodIn_app (goodIn_of _ (by decide +kernel)) ggX2_digestOfDrawer_X2_sure
set_option maxRecDepth 20000 in
theorem ggX2_digestOfDrawer_X2_delays : GoodIn wsX2_digestOfDrawer wsX2_delays := goodIn_r _ [107, 108, 10, 11, 12, 5, 13, 14, 31, 32, 33, 34, 35, 8, 9, 36, 37, 38, 39, 15, 16, 17, 18, 19, 7, 40, 41, 42, 43, 44, 45, 46, 47, 48, 49, 50, 51, 52, 53, 54, 55, 56, 57, 58, 59, 60, 61, 62, 63, 64, 65, 66, 67, 68, 69, 70, 71, 109, 110, 111, 112, 113, 114, 115, 116, 117, 118, 138, 139, 140, 141, 142, 143, 144, 119, 120, 121, 122, 123, 124, 125, 126, 127, 128, 129, 130, 131, 132, 133, 134, 135, 136, 137] (by decide +kernel) (by decide +kernel)
set_option maxRecDepth 20000 in
theorem gX2_digestOfDrawer_X2_delays : GoodIn wsX2_digestOfDrawer (wsV RX2 213 RX2 yX2_delays wsX2_delays) := goodIn_app (goodIn_of _ (by decide +kernel)) ggX2_digestOfDrawer_X2_delays
theorem dX2_digestOfDrawer_0 : decode cX2_digestOfDrawer 0 = .ok (.lload_n 1, 1) := by decide +kernel
theorem dX2_digestOfDrawer_1 : decode cX2_digestOfDrawer 1 = .ok (.lstore 4, 2) := by decide +kernel
theorem dX2_digestOfDrawer_3 : decode cX2_digestOfDrawer 3 = .ok (.iconst 0, 1) := by decide +kernel
theorem dX2_digestOfDrawer_4 : decode cX2_digestOfDrawer 4 = .ok (.istore 6, 2) := by decide +kernel
theorem dX2_digestOfDrawer_6 : decode cX2_digestOfDrawer 6 = .ok (.iload 6, 2) := by decide +kernel
theorem dX2_digestOfDrawer_8 : decode cX2_digestOfDrawer 8 = .ok (.bipush 6, 2) := by decide +kernel
theorem dX2_digestOfDrawer_10 : decode cX2_digestOfDrawer 10 = .ok (.if_icmp .gt 26, 3) := by decide +kernel
theorem dX2_digestOfDrawer_13 : decode cX2_digestOfDrawer 13 = .ok (.ldc2_w 202, 3) := by decide +kernel
theorem dX2_digestOfDrawer_16 : decode cX2_digestOfDrawer 16 = .ok (.lload 4, 2) := by decide +kernel
theorem dX2_digestOfDrawer_18 : decode cX2_digestOfDrawer 18 = .ok (.lmul, 1) := by decide +kernel
theorem dX2_digestOfDrawer_19 : decode cX2_digestOfDrawer 19 = .ok (.aload_n 0, 1) := by decide +kernel
theorem dX2_digestOfDrawer_20 : decode cX2_digestOfDrawer 20 = .ok (.iload_n 3, 1) := by decide +kernel
theorem dX2_digestOfDrawer_21 : decode cX2_digestOfDrawer 21 = .ok (.iload 6, 2) := by decide +kernel
theorem dX2_digestOfDrawer_23 : decode cX2_digestOfDrawer 23 = .ok (.invokevirtual 207, 3) := by decide +kernel
theorem dX2_digestOfDrawer_26 : decode cX2_digestOfDrawer 26 = .ok (.i2l, 1) := by decide +kernel
theorem dX2_digestOfDrawer_27 : decode cX2_digestOfDrawer 27 = .ok (.ladd, 1) := by decide +kernel
theorem dX2_digestOfDrawer_28 : decode cX2_digestOfDrawer 28 = .ok (.lstore 4, 2) := by decide +kernel
theorem dX2_digestOfDrawer_30 : decode cX2_digestOfDrawer 30 = .ok (.iinc 6 1, 3) := by decide +kernel
theorem dX2_digestOfDrawer_33 : decode cX2_digestOfDrawer 33 = .ok (.goto (-27), 3) := by decide +kernel
theorem dX2_digestOfDrawer_36 : decode cX2_digestOfDrawer 36 = .ok (.iconst 0, 1) := by decide +kernel
theorem dX2_digestOfDrawer_37 : decode cX2_digestOfDrawer 37 = .ok (.istore 6, 2) := by decide +kernel
theorem dX2_digestOfDrawer_39 : decode cX2_digestOfDrawer 39 = .ok (.iload 6, 2) := by decide +kernel
theorem dX2_digestOfDrawer_41 : decode cX2_digestOfDrawer 41 = .ok (.bipush 7, 2) := by decide +kernel
theorem dX2_digestOfDrawer_43 : decode cX2_digestOfDrawer 43 = .ok (.if_icmp .ge 26, 3) := by decide +kernel
theorem dX2_digestOfDrawer_46 : decode cX2_digestOfDrawer 46 = .ok (.ldc2_w 202, 3) := by decide +kernel
theorem dX2_digestOfDrawer_49 : decode cX2_digestOfDrawer 49 = .ok (.lload 4, 2) := by decide +kernel
theorem dX2_digestOfDrawer_51 : decode cX2_digestOfDrawer 51 = .ok (.lmul, 1) := by decide +kernel
theorem dX2_digestOfDrawer_52 : decode cX2_digestOfDrawer 52 = .ok (.aload_n 0, 1) := by decide +kernel
theorem dX2_digestOfDrawer_53 : decode cX2_digestOfDrawer 53 = .ok (.iload_n 3, 1) := by decide +kernel
theorem dX2_digestOfDrawer_54 : decode cX2_digestOfDrawer 54 = .ok (.iload 6, 2) := by decide +kernel
theorem dX2_digestOfDrawer_56 : decode cX2_digestOfDrawer 56 = .ok (.invokevirtual 210, 3) := by decide +kernel
theorem dX2_digestOfDrawer_59 : decode cX2_digestOfDrawer 59 = .ok (.i2l, 1) := by decide +kernel
theorem dX2_digestOfDrawer_60 : decode cX2_digestOfDrawer 60 = .ok (.ladd, 1) := by decide +kernel
theorem dX2_digestOfDrawer_61 : decode cX2_digestOfDrawer 61 = .ok (.lstore 4, 2) := by decide +kernel
theorem dX2_digestOfDrawer_63 : decode cX2_digestOfDrawer 63 = .ok (.iinc 6 1, 3) := by decide +kernel
theorem dX2_digestOfDrawer_66 : decode cX2_digestOfDrawer 66 = .ok (.goto (-27), 3) := by decide +kernel
theorem dX2_digestOfDrawer_69 : decode cX2_digestOfDrawer 69 = .ok (.ldc2_w 202, 3) := by decide +kernel
theorem dX2_digestOfDrawer_72 : decode cX2_digestOfDrawer 72 = .ok (.lload 4, 2) := by decide +kernel
theorem dX2_digestOfDrawer_74 : decode cX2_digestOfDrawer 74 = .ok (.lmul, 1) := by decide +kernel
theorem dX2_digestOfDrawer_75 : decode cX2_digestOfDrawer 75 = .ok (.aload_n 0, 1) := by decide +kernel
theorem dX2_digestOfDrawer_76 : decode cX2_digestOfDrawer 76 = .ok (.iload_n 3, 1) := by decide +kernel
theorem dX2_digestOfDrawer_77 : decode cX2_digestOfDrawer 77 = .ok (.invokevirtual 213, 3) := by decide +kernel
theorem dX2_digestOfDrawer_80 : decode cX2_digestOfDrawer 80 = .ok (.i2l, 1) := by decide +kernel
theorem dX2_digestOfDrawer_81 : decode cX2_digestOfDrawer 81 = .ok (.ladd, 1) := by decide +kernel
theorem dX2_digestOfDrawer_82 : decode cX2_digestOfDrawer 82 = .ok (.lreturn, 1) := by decide +kernel
set_option maxRecDepth 20000 in
theorem ggX2_digestOfPerson_X2_about : GoodIn wsX2_digestOfPerson wsX2_about := goodIn_r _ [6, 7, 8, 9, 10, 11, 12, 13, 5, 14, 15, 16, 17, 18, 19, 20, 21, 22, 23, 24, 83, 84, 85, 86, 87, 88, 89, 90, 91, 92, 93, 94, 95, 96, 97, 98, 99, 100, 101] (by decide +kernel) (by decide +kernel)
set_option maxRecDepth 20000 in
theorem gX2_digestOfPerson_X2_about : GoodIn wsX2_digestOfPerson (wsV RX2 216 RX2 yX2_about wsX2_about) := goodIn_app (goodIn_of _ (by decide +kernel)) ggX2_digestOfPerson_X2_about
set_option maxRecDepth 20000 in
theorem ggX2_digestOfPerson_X2_who : GoodIn wsX2_digestOfPerson wsX2_who := goodIn_r _ [28, 11, 12, 13, 5, 14, 7, 15, 29, 30, 31, 32, 10, 33, 34, 35, 36, 37, 38, 8, 9, 39, 40, 41, 42, 43, 44, 45, 46, 47, 48, 49, 50, 51, 52, 53, 54, 55, 56, 57, 17, 18, 23, 24, 58, 59, 60, 61, 62, 63, 64, 65, 66, 67, 68, 69, 70, 71, 72, 73, 74, 75, 76, 77, 78, 79, 80, 81, 82, 83, 84, 85, 86, 87, 88, 89, 90, 91, 92, 93, 94, 95, 96, 97, 98, 99, 100, 101, 102, 103, 104, 105, 106, 107, 108] (by decide +kernel) (by decide +kernel)
set_option maxRecDepth 20000 in
theorem gX2_digestOfPerson_X2_who : GoodIn wsX2_digestOfPerson (wsV RX2 219 RX2 yX2_who wsX2_who) := goodIn_app (goodIn_of _ (by decide +kernel)) ggX2_digestOfPerson_X2_who
theorem dX2_digestOfPerson_0 : decode cX2_digestOfPerson 0 = .ok (.lload_n 1, 1) := by decide +kernel
theorem dX2_digestOfPerson_1 : decode cX2_digestOfPerson 1 = .ok (.lstore 4, 2) := by decide +kernel
theorem dX2_digestOfPerson_3 : decode cX2_digestOfPerson 3 = .ok (.iconst 0, 1) := by decide +kernel
theorem dX2_digestOfPerson_4 : decode cX2_digestOfPerson 4 = .ok (.istore 6, 2) := by decide +kernel
theorem dX2_digestOfPerson_6 : decode cX2_digestOfPerson 6 = .ok (.iload 6, 2) := by decide +kernel
theorem dX2_digestOfPerson_8 : decode cX2_digestOfPerson 8 = .ok (.iconst 2, 1) := by decide +kernel
theorem dX2_digestOfPerson_9 : decode cX2_digestOfPerson 9 = .ok (.if_icmp .gt 26, 3) := by decide +kernel
theorem dX2_digestOfPerson_12 : decode cX2_digestOfPerson 12 = .ok (.ldc2_w 202, 3) := by decide +kernel
theorem dX2_digestOfPerson_15 : decode cX2_digestOfPerson 15 = .ok (.lload 4, 2) := by decide +kernel
theorem dX2_digestOfPerson_17 : decode cX2_digestOfPerson 17 = .ok (.lmul, 1) := by decide +kernel
theorem dX2_digestOfPerson_18 : decode cX2_digestOfPerson 18 = .ok (.aload_n 0, 1) := by decide +kernel
theorem dX2_digestOfPerson_19 : decode cX2_digestOfPerson 19 = .ok (.iload_n 3, 1) := by decide +kernel
theorem dX2_digestOfPerson_20 : decode cX2_digestOfPerson 20 = .ok (.iload 6, 2) := by decide +kernel
theorem dX2_digestOfPerson_22 : decode cX2_digestOfPerson 22 = .ok (.invokevirtual 216, 3) := by decide +kernel
theorem dX2_digestOfPerson_25 : decode cX2_digestOfPerson 25 = .ok (.i2l, 1) := by decide +kernel
theorem dX2_digestOfPerson_26 : decode cX2_digestOfPerson 26 = .ok (.ladd, 1) := by decide +kernel
theorem dX2_digestOfPerson_27 : decode cX2_digestOfPerson 27 = .ok (.lstore 4, 2) := by decide +kernel
theorem dX2_digestOfPerson_29 : decode cX2_digestOfPerson 29 = .ok (.iinc 6 1, 3) := by decide +kernel
theorem dX2_digestOfPerson_32 : decode cX2_digestOfPerson 32 = .ok (.goto (-26), 3) := by decide +kernel
theorem dX2_digestOfPerson_35 : decode cX2_digestOfPerson 35 = .ok (.iconst 0, 1) := by decide +kernel
theorem dX2_digestOfPerson_36 : decode cX2_digestOfPerson 36 = .ok (.istore 6, 2) := by decide +kernel
theorem dX2_digestOfPerson_38 : decode cX2_digestOfPerson 38 = .ok (.iload 6, 2) := by decide +kernel
theorem dX2_digestOfPerson_40 : decode cX2_digestOfPerson 40 = .ok (.iconst 1, 1) := by decide +kernel
theorem dX2_digestOfPerson_41 : decode cX2_digestOfPerson 41 = .ok (.if_icmp .gt 26, 3) := by decide +kernel
theorem dX2_digestOfPerson_44 : decode cX2_digestOfPerson 44 = .ok (.ldc2_w 202, 3) := by decide +kernel
theorem dX2_digestOfPerson_47 : decode cX2_digestOfPerson 47 = .ok (.lload 4, 2) := by decide +kernel
theorem dX2_digestOfPerson_49 : decode cX2_digestOfPerson 49 = .ok (.lmul, 1) := by decide +kernel
theorem dX2_digestOfPerson_50 : decode cX2_digestOfPerson 50 = .ok (.aload_n 0, 1) := by decide +kernel
theorem dX2_digestOfPerson_51 : decode cX2_digestOfPerson 51 = .ok (.iload_n 3, 1) := by decide +kernel
theorem dX2_digestOfPerson_52 : decode cX2_digestOfPerson 52 = .ok (.iload 6, 2) := by decide +kernel
theorem dX2_digestOfPerson_54 : decode cX2_digestOfPerson 54 = .ok (.invokevirtual 219, 3) := by decide +kernel
theorem dX2_digestOfPerson_57 : decode cX2_digestOfPerson 57 = .ok (.i2l, 1) := by decide +kernel
theorem dX2_digestOfPerson_58 : decode cX2_digestOfPerson 58 = .ok (.ladd, 1) := by decide +kernel
theorem dX2_digestOfPerson_59 : decode cX2_digestOfPerson 59 = .ok (.lstore 4, 2) := by decide +kernel
theorem dX2_digestOfPerson_61 : decode cX2_digestOfPerson 61 = .ok (.iinc 6 1, 3) := by decide +kernel
theorem dX2_digestOfPerson_64 : decode cX2_digestOfPerson 64 = .ok (.goto (-26), 3) := by decide +kernel
theorem dX2_digestOfPerson_67 : decode cX2_digestOfPerson 67 = .ok (.lload 4, 2) := by decide +kernel
theorem dX2_digestOfPerson_69 : decode cX2_digestOfPerson 69 = .ok (.lreturn, 1) := by decide +kernel
theorem dX2_isDrawer_0 : decode cX2_isDrawer 0 = .ok (.aload_n 0, 1) := by decide +kernel
theorem dX2_isDrawer_1 : decode cX2_isDrawer 1 = .ok (.getfield 49, 3) := by decide +kernel
theorem dX2_isDrawer_4 : decode cX2_isDrawer 4 = .ok (.ifCond .eq 17, 3) := by decide +kernel
theorem dX2_isDrawer_7 : decode cX2_isDrawer 7 = .ok (.iload_n 1, 1) := by decide +kernel
theorem dX2_isDrawer_8 : decode cX2_isDrawer 8 = .ok (.ifCond .lt 13, 3) := by decide +kernel
theorem dX2_isDrawer_11 : decode cX2_isDrawer 11 = .ok (.iload_n 1, 1) := by decide +kernel
theorem dX2_isDrawer_12 : decode cX2_isDrawer 12 = .ok (.bipush 9, 2) := by decide +kernel
theorem dX2_isDrawer_14 : decode cX2_isDrawer 14 = .ok (.if_icmp .ge 7, 3) := by decide +kernel
theorem dX2_isDrawer_17 : decode cX2_isDrawer 17 = .ok (.iconst 1, 1) := by decide +kernel
theorem dX2_isDrawer_18 : decode cX2_isDrawer 18 = .ok (.goto 4, 3) := by decide +kernel
theorem dX2_isDrawer_21 : decode cX2_isDrawer 21 = .ok (.iconst 0, 1) := by decide +kernel
theorem dX2_isDrawer_22 : decode cX2_isDrawer 22 = .ok (.ireturn, 1) := by decide +kernel
theorem dX2_isPerson_0 : decode cX2_isPerson 0 = .ok (.iload_n 1, 1) := by decide +kernel
theorem dX2_isPerson_1 : decode cX2_isPerson 1 = .ok (.ifCond .lt 18, 3) := by decide +kernel
theorem dX2_isPerson_4 : decode cX2_isPerson 4 = .ok (.iload_n 1, 1) := by decide +kernel
theorem dX2_isPerson_5 : decode cX2_isPerson 5 = .ok (.aload_n 0, 1) := by decide +kernel
theorem dX2_isPerson_6 : decode cX2_isPerson 6 = .ok (.getfield 19, 3) := by decide +kernel
theorem dX2_isPerson_9 : decode cX2_isPerson 9 = .ok (.getfield 94, 3) := by decide +kernel
theorem dX2_isPerson_12 : decode cX2_isPerson 12 = .ok (.if_icmp .ge 7, 3) := by decide +kernel
theorem dX2_isPerson_15 : decode cX2_isPerson 15 = .ok (.iconst 1, 1) := by decide +kernel
theorem dX2_isPerson_16 : decode cX2_isPerson 16 = .ok (.goto 4, 3) := by decide +kernel
theorem dX2_isPerson_19 : decode cX2_isPerson 19 = .ok (.iconst 0, 1) := by decide +kernel
theorem dX2_isPerson_20 : decode cX2_isPerson 20 = .ok (.ireturn, 1) := by decide +kernel
theorem dX2_isDay_0 : decode cX2_isDay 0 = .ok (.iload_n 0, 1) := by decide +kernel
theorem dX2_isDay_1 : decode cX2_isDay 1 = .ok (.ifCond .lt 13, 3) := by decide +kernel
theorem dX2_isDay_4 : decode cX2_isDay 4 = .ok (.iload_n 0, 1) := by decide +kernel
theorem dX2_isDay_5 : decode cX2_isDay 5 = .ok (.bipush 7, 2) := by decide +kernel
theorem dX2_isDay_7 : decode cX2_isDay 7 = .ok (.if_icmp .ge 7, 3) := by decide +kernel
theorem dX2_isDay_10 : decode cX2_isDay 10 = .ok (.iconst 1, 1) := by decide +kernel
theorem dX2_isDay_11 : decode cX2_isDay 11 = .ok (.goto 4, 3) := by decide +kernel
theorem dX2_isDay_14 : decode cX2_isDay 14 = .ok (.iconst 0, 1) := by decide +kernel
theorem dX2_isDay_15 : decode cX2_isDay 15 = .ok (.ireturn, 1) := by decide +kernel
theorem dX2_isKind_0 : decode cX2_isKind 0 = .ok (.iload_n 0, 1) := by decide +kernel
theorem dX2_isKind_1 : decode cX2_isKind 1 = .ok (.ifCond .lt 12, 3) := by decide +kernel
theorem dX2_isKind_4 : decode cX2_isKind 4 = .ok (.iload_n 0, 1) := by decide +kernel
theorem dX2_isKind_5 : decode cX2_isKind 5 = .ok (.iconst 5, 1) := by decide +kernel
theorem dX2_isKind_6 : decode cX2_isKind 6 = .ok (.if_icmp .ge 7, 3) := by decide +kernel
theorem dX2_isKind_9 : decode cX2_isKind 9 = .ok (.iconst 1, 1) := by decide +kernel
theorem dX2_isKind_10 : decode cX2_isKind 10 = .ok (.goto 4, 3) := by decide +kernel
theorem dX2_isKind_13 : decode cX2_isKind 13 = .ok (.iconst 0, 1) := by decide +kernel
theorem dX2_isKind_14 : decode cX2_isKind 14 = .ok (.ireturn, 1) := by decide +kernel
theorem dX2_bitOf_0 : decode cX2_bitOf 0 = .ok (.iload_n 0, 1) := by decide +kernel
theorem dX2_bitOf_1 : decode cX2_bitOf 1 = .ok (.iload_n 1, 1) := by decide +kernel
theorem dX2_bitOf_2 : decode cX2_bitOf 2 = .ok (.ishr, 1) := by decide +kernel
theorem dX2_bitOf_3 : decode cX2_bitOf 3 = .ok (.iconst 1, 1) := by decide +kernel
theorem dX2_bitOf_4 : decode cX2_bitOf 4 = .ok (.iand, 1) := by decide +kernel
theorem dX2_bitOf_5 : decode cX2_bitOf 5 = .ok (.ireturn, 1) := by decide +kernel
set_option maxRecDepth 20000 in
theorem ggX2_fittingLetters_X2_fits : GoodIn wsX2_fittingLetters wsX2_fits := goodIn_r _ [6] (by decide +kernel) (by decide +kernel)
set_option maxRecDepth 20000 in
theorem gX2_fittingLetters_X2_fits : GoodIn wsX2_fittingLetters (va_wsS RX2 222 yX2_fits wsX2_fits) := goodIn_app (goodIn_of _ (by decide +kernel)) ggX2_fittingLetters_X2_fits
theorem dX2_fittingLetters_0 : decode cX2_fittingLetters 0 = .ok (.iconst 0, 1) := by decide +kernel
theorem dX2_fittingLetters_1 : decode cX2_fittingLetters 1 = .ok (.istore_n 1, 1) := by decide +kernel
theorem dX2_fittingLetters_2 : decode cX2_fittingLetters 2 = .ok (.iload_n 1, 1) := by decide +kernel
theorem dX2_fittingLetters_3 : decode cX2_fittingLetters 3 = .ok (.aload_n 0, 1) := by decide +kernel
theorem dX2_fittingLetters_4 : decode cX2_fittingLetters 4 = .ok (.getfield 33, 3) := by decide +kernel
theorem dX2_fittingLetters_7 : decode cX2_fittingLetters 7 = .ok (.if_icmp .ge 33, 3) := by decide +kernel
theorem dX2_fittingLetters_10 : decode cX2_fittingLetters 10 = .ok (.iload_n 1, 1) := by decide +kernel
theorem dX2_fittingLetters_11 : decode cX2_fittingLetters 11 = .ok (.aload_n 0, 1) := by decide +kernel
theorem dX2_fittingLetters_12 : decode cX2_fittingLetters 12 = .ok (.getfield 9, 3) := by decide +kernel
theorem dX2_fittingLetters_15 : decode cX2_fittingLetters 15 = .ok (.arraylength, 1) := by decide +kernel
theorem dX2_fittingLetters_16 : decode cX2_fittingLetters 16 = .ok (.if_icmp .ge 24, 3) := by decide +kernel
theorem dX2_fittingLetters_19 : decode cX2_fittingLetters 19 = .ok (.iload_n 1, 1) := by decide +kernel
theorem dX2_fittingLetters_20 : decode cX2_fittingLetters 20 = .ok (.aload_n 0, 1) := by decide +kernel
theorem dX2_fittingLetters_21 : decode cX2_fittingLetters 21 = .ok (.getfield 9, 3) := by decide +kernel
theorem dX2_fittingLetters_24 : decode cX2_fittingLetters 24 = .ok (.iload_n 1, 1) := by decide +kernel
theorem dX2_fittingLetters_25 : decode cX2_fittingLetters 25 = .ok (.iaload, 1) := by decide +kernel
theorem dX2_fittingLetters_26 : decode cX2_fittingLetters 26 = .ok (.invokestatic 222, 3) := by decide +kernel
theorem dX2_fittingLetters_29 : decode cX2_fittingLetters 29 = .ok (.ifCond .ne 5, 3) := by decide +kernel
theorem dX2_fittingLetters_32 : decode cX2_fittingLetters 32 = .ok (.iload_n 1, 1) := by decide +kernel
theorem dX2_fittingLetters_33 : decode cX2_fittingLetters 33 = .ok (.ireturn, 1) := by decide +kernel
theorem dX2_fittingLetters_34 : decode cX2_fittingLetters 34 = .ok (.iinc 1 1, 3) := by decide +kernel
theorem dX2_fittingLetters_37 : decode cX2_fittingLetters 37 = .ok (.goto (-35), 3) := by decide +kernel
theorem dX2_fittingLetters_40 : decode cX2_fittingLetters 40 = .ok (.aload_n 0, 1) := by decide +kernel
theorem dX2_fittingLetters_41 : decode cX2_fittingLetters 41 = .ok (.getfield 33, 3) := by decide +kernel
theorem dX2_fittingLetters_44 : decode cX2_fittingLetters 44 = .ok (.ireturn, 1) := by decide +kernel
theorem dX2_fits_0 : decode cX2_fits 0 = .ok (.iload_n 0, 1) := by decide +kernel
theorem dX2_fits_1 : decode cX2_fits 1 = .ok (.bipush 9, 2) := by decide +kernel
theorem dX2_fits_3 : decode cX2_fits 3 = .ok (.if_icmp .ge 33, 3) := by decide +kernel
theorem dX2_fits_6 : decode cX2_fits 6 = .ok (.iload_n 1, 1) := by decide +kernel
theorem dX2_fits_7 : decode cX2_fits 7 = .ok (.bipush 121, 2) := by decide +kernel
theorem dX2_fits_9 : decode cX2_fits 9 = .ok (.if_icmp .eq 21, 3) := by decide +kernel
theorem dX2_fits_12 : decode cX2_fits 12 = .ok (.iload_n 1, 1) := by decide +kernel
theorem dX2_fits_13 : decode cX2_fits 13 = .ok (.bipush 122, 2) := by decide +kernel
theorem dX2_fits_15 : decode cX2_fits 15 = .ok (.if_icmp .eq 15, 3) := by decide +kernel
theorem dX2_fits_18 : decode cX2_fits 18 = .ok (.iload_n 1, 1) := by decide +kernel
theorem dX2_fits_19 : decode cX2_fits 19 = .ok (.bipush 97, 2) := by decide +kernel
theorem dX2_fits_21 : decode cX2_fits 21 = .ok (.if_icmp .lt 13, 3) := by decide +kernel
theorem dX2_fits_24 : decode cX2_fits 24 = .ok (.iload_n 1, 1) := by decide +kernel
theorem dX2_fits_25 : decode cX2_fits 25 = .ok (.bipush 100, 2) := by decide +kernel
theorem dX2_fits_27 : decode cX2_fits 27 = .ok (.if_icmp .gt 7, 3) := by decide +kernel
theorem dX2_fits_30 : decode cX2_fits 30 = .ok (.iconst 1, 1) := by decide +kernel
theorem dX2_fits_31 : decode cX2_fits 31 = .ok (.goto 4, 3) := by decide +kernel
theorem dX2_fits_34 : decode cX2_fits 34 = .ok (.iconst 0, 1) := by decide +kernel
theorem dX2_fits_35 : decode cX2_fits 35 = .ok (.ireturn, 1) := by decide +kernel
theorem dX2_fits_36 : decode cX2_fits 36 = .ok (.iload_n 0, 1) := by decide +kernel
theorem dX2_fits_37 : decode cX2_fits 37 = .ok (.bipush 9, 2) := by decide +kernel
theorem dX2_fits_39 : decode cX2_fits 39 = .ok (.if_icmp .ne 19, 3) := by decide +kernel
theorem dX2_fits_42 : decode cX2_fits 42 = .ok (.iload_n 1, 1) := by decide +kernel
theorem dX2_fits_43 : decode cX2_fits 43 = .ok (.bipush 48, 2) := by decide +kernel
theorem dX2_fits_45 : decode cX2_fits 45 = .ok (.if_icmp .lt 13, 3) := by decide +kernel
theorem dX2_fits_48 : decode cX2_fits 48 = .ok (.iload_n 1, 1) := by decide +kernel
theorem dX2_fits_49 : decode cX2_fits 49 = .ok (.bipush 52, 2) := by decide +kernel
theorem dX2_fits_51 : decode cX2_fits 51 = .ok (.if_icmp .ge 7, 3) := by decide +kernel
theorem dX2_fits_54 : decode cX2_fits 54 = .ok (.iconst 1, 1) := by decide +kernel
theorem dX2_fits_55 : decode cX2_fits 55 = .ok (.goto 4, 3) := by decide +kernel
theorem dX2_fits_58 : decode cX2_fits 58 = .ok (.iconst 0, 1) := by decide +kernel
theorem dX2_fits_59 : decode cX2_fits 59 = .ok (.ireturn, 1) := by decide +kernel
theorem dX2_delayByLetter_0 : decode cX2_delayByLetter 0 = .ok (.iload_n 0, 1) := by decide +kernel
theorem dX2_delayByLetter_1 : decode cX2_delayByLetter 1 = .ok (.bipush 121, 2) := by decide +kernel
theorem dX2_delayByLetter_3 : decode cX2_delayByLetter 3 = .ok (.if_icmp .lt 12, 3) := by decide +kernel
theorem dX2_delayByLetter_6 : decode cX2_delayByLetter 6 = .ok (.iload_n 0, 1) := by decide +kernel
theorem dX2_delayByLetter_7 : decode cX2_delayByLetter 7 = .ok (.bipush 122, 2) := by decide +kernel
theorem dX2_delayByLetter_9 : decode cX2_delayByLetter 9 = .ok (.isub, 1) := by decide +kernel
theorem dX2_delayByLetter_10 : decode cX2_delayByLetter 10 = .ok (.iconst 1, 1) := by decide +kernel
theorem dX2_delayByLetter_11 : decode cX2_delayByLetter 11 = .ok (.isub, 1) := by decide +kernel
theorem dX2_delayByLetter_12 : decode cX2_delayByLetter 12 = .ok (.goto 7, 3) := by decide +kernel
theorem dX2_delayByLetter_15 : decode cX2_delayByLetter 15 = .ok (.iload_n 0, 1) := by decide +kernel
theorem dX2_delayByLetter_16 : decode cX2_delayByLetter 16 = .ok (.bipush 97, 2) := by decide +kernel
theorem dX2_delayByLetter_18 : decode cX2_delayByLetter 18 = .ok (.isub, 1) := by decide +kernel
theorem dX2_delayByLetter_19 : decode cX2_delayByLetter 19 = .ok (.ireturn, 1) := by decide +kernel
theorem dX2_isOfKind_0 : decode cX2_isOfKind 0 = .ok (.iload_n 1, 1) := by decide +kernel
theorem dX2_isOfKind_1 : decode cX2_isOfKind 1 = .ok (.ifCond .eq 18, 3) := by decide +kernel
theorem dX2_isOfKind_4 : decode cX2_isOfKind 4 = .ok (.iload_n 1, 1) := by decide +kernel
theorem dX2_isOfKind_5 : decode cX2_isOfKind 5 = .ok (.iload_n 0, 1) := by decide +kernel
theorem dX2_isOfKind_6 : decode cX2_isOfKind 6 = .ok (.if_icmp .eq 13, 3) := by decide +kernel
theorem dX2_isOfKind_9 : decode cX2_isOfKind 9 = .ok (.iload_n 1, 1) := by decide +kernel
theorem dX2_isOfKind_10 : decode cX2_isOfKind 10 = .ok (.iconst 2, 1) := by decide +kernel
theorem dX2_isOfKind_11 : decode cX2_isOfKind 11 = .ok (.if_icmp .ne 12, 3) := by decide +kernel
theorem dX2_isOfKind_14 : decode cX2_isOfKind 14 = .ok (.iload_n 0, 1) := by decide +kernel
theorem dX2_isOfKind_15 : decode cX2_isOfKind 15 = .ok (.iconst 4, 1) := by decide +kernel
theorem dX2_isOfKind_16 : decode cX2_isOfKind 16 = .ok (.if_icmp .ne 7, 3) := by decide +kernel
theorem dX2_isOfKind_19 : decode cX2_isOfKind 19 = .ok (.iconst 1, 1) := by decide +kernel
theorem dX2_isOfKind_20 : decode cX2_isOfKind 20 = .ok (.goto 4, 3) := by decide +kernel
theorem dX2_isOfKind_23 : decode cX2_isOfKind 23 = .ok (.iconst 0, 1) := by decide +kernel
theorem dX2_isOfKind_24 : decode cX2_isOfKind 24 = .ok (.ireturn, 1) := by decide +kernel
theorem dX2_putsIfEmpty_0 : decode cX2_putsIfEmpty 0 = .ok (.iload_n 0, 1) := by decide +kernel
theorem dX2_putsIfEmpty_1 : decode cX2_putsIfEmpty 1 = .ok (.tableswitch 43 2 4 #[27, 30, 34], 27) := by decide +kernel
theorem dX2_putsIfEmpty_28 : decode cX2_putsIfEmpty 28 = .ok (.bipush 127, 2) := by decide +kernel
theorem dX2_putsIfEmpty_30 : decode cX2_putsIfEmpty 30 = .ok (.ireturn, 1) := by decide +kernel
theorem dX2_putsIfEmpty_31 : decode cX2_putsIfEmpty 31 = .ok (.iconst 1, 1) := by decide +kernel
theorem dX2_putsIfEmpty_32 : decode cX2_putsIfEmpty 32 = .ok (.iload_n 1, 1) := by decide +kernel
theorem dX2_putsIfEmpty_33 : decode cX2_putsIfEmpty 33 = .ok (.ishl, 1) := by decide +kernel
theorem dX2_putsIfEmpty_34 : decode cX2_putsIfEmpty 34 = .ok (.ireturn, 1) := by decide +kernel
theorem dX2_putsIfEmpty_35 : decode cX2_putsIfEmpty 35 = .ok (.bipush 127, 2) := by decide +kernel
theorem dX2_putsIfEmpty_37 : decode cX2_putsIfEmpty 37 = .ok (.iconst 1, 1) := by decide +kernel
theorem dX2_putsIfEmpty_38 : decode cX2_putsIfEmpty 38 = .ok (.iload_n 1, 1) := by decide +kernel
theorem dX2_putsIfEmpty_39 : decode cX2_putsIfEmpty 39 = .ok (.ishl, 1) := by decide +kernel
theorem dX2_putsIfEmpty_40 : decode cX2_putsIfEmpty 40 = .ok (.iconst (-1), 1) := by decide +kernel
theorem dX2_putsIfEmpty_41 : decode cX2_putsIfEmpty 41 = .ok (.ixor, 1) := by decide +kernel
theorem dX2_putsIfEmpty_42 : decode cX2_putsIfEmpty 42 = .ok (.iand, 1) := by decide +kernel
theorem dX2_putsIfEmpty_43 : decode cX2_putsIfEmpty 43 = .ok (.ireturn, 1) := by decide +kernel
theorem dX2_putsIfEmpty_44 : decode cX2_putsIfEmpty 44 = .ok (.iconst 0, 1) := by decide +kernel
theorem dX2_putsIfEmpty_45 : decode cX2_putsIfEmpty 45 = .ok (.ireturn, 1) := by decide +kernel
theorem dX2_putsIfThere_0 : decode cX2_putsIfThere 0 = .ok (.iload_n 0, 1) := by decide +kernel
theorem dX2_putsIfThere_1 : decode cX2_putsIfThere 1 = .ok (.lookupswitch 34 #[(1, 27), (3, 30)], 27) := by decide +kernel
theorem dX2_putsIfThere_28 : decode cX2_putsIfThere 28 = .ok (.bipush 127, 2) := by decide +kernel
theorem dX2_putsIfThere_30 : decode cX2_putsIfThere 30 = .ok (.ireturn, 1) := by decide +kernel
theorem dX2_putsIfThere_31 : decode cX2_putsIfThere 31 = .ok (.iconst 1, 1) := by decide +kernel
theorem dX2_putsIfThere_32 : decode cX2_putsIfThere 32 = .ok (.iload_n 1, 1) := by decide +kernel
theorem dX2_putsIfThere_33 : decode cX2_putsIfThere 33 = .ok (.ishl, 1) := by decide +kernel
theorem dX2_putsIfThere_34 : decode cX2_putsIfThere 34 = .ok (.ireturn, 1) := by decide +kernel
theorem dX2_putsIfThere_35 : decode cX2_putsIfThere 35 = .ok (.iconst 0, 1) := by decide +kernel
theorem dX2_putsIfThere_36 : decode cX2_putsIfThere 36 = .ok (.ireturn, 1) := by decide +kernel
theorem dX2_aheadOf_0 : decode cX2_aheadOf 0 = .ok (.aload_n 0, 1) := by decide +kernel
theorem dX2_aheadOf_1 : decode cX2_aheadOf 1 = .ok (.getfield 19, 3) := by decide +kernel
theorem dX2_aheadOf_4 : decode cX2_aheadOf 4 = .ok (.getfield 59, 3) := by decide +kernel
theorem dX2_aheadOf_7 : decode cX2_aheadOf 7 = .ok (.tableswitch 49 0 2 #[25, 32, 41], 25) := by decide +kernel
theorem dX2_aheadOf_32 : decode cX2_aheadOf 32 = .ok (.aload_n 0, 1) := by decide +kernel
theorem dX2_aheadOf_33 : decode cX2_aheadOf 33 = .ok (.getfield 13, 3) := by decide +kernel
theorem dX2_aheadOf_36 : decode cX2_aheadOf 36 = .ok (.iload_n 1, 1) := by decide +kernel
theorem dX2_aheadOf_37 : decode cX2_aheadOf 37 = .ok (.iaload, 1) := by decide +kernel
theorem dX2_aheadOf_38 : decode cX2_aheadOf 38 = .ok (.ireturn, 1) := by decide +kernel
theorem dX2_aheadOf_39 : decode cX2_aheadOf 39 = .ok (.aload_n 0, 1) := by decide +kernel
theorem dX2_aheadOf_40 : decode cX2_aheadOf 40 = .ok (.getfield 13, 3) := by decide +kernel
theorem dX2_aheadOf_43 : decode cX2_aheadOf 43 = .ok (.iload_n 1, 1) := by decide +kernel
theorem dX2_aheadOf_44 : decode cX2_aheadOf 44 = .ok (.iaload, 1) := by decide +kernel
theorem dX2_aheadOf_45 : decode cX2_aheadOf 45 = .ok (.iconst 1, 1) := by decide +kernel
theorem dX2_aheadOf_46 : decode cX2_aheadOf 46 = .ok (.iadd, 1) := by decide +kernel
theorem dX2_aheadOf_47 : decode cX2_aheadOf 47 = .ok (.ireturn, 1) := by decide +kernel
theorem dX2_aheadOf_48 : decode cX2_aheadOf 48 = .ok (.aload_n 0, 1) := by decide +kernel
theorem dX2_aheadOf_49 : decode cX2_aheadOf 49 = .ok (.getfield 13, 3) := by decide +kernel
theorem dX2_aheadOf_52 : decode cX2_aheadOf 52 = .ok (.iload_n 1, 1) := by decide +kernel
theorem dX2_aheadOf_53 : decode cX2_aheadOf 53 = .ok (.iaload, 1) := by decide +kernel
theorem dX2_aheadOf_54 : decode cX2_aheadOf 54 = .ok (.ineg, 1) := by decide +kernel
theorem dX2_aheadOf_55 : decode cX2_aheadOf 55 = .ok (.ireturn, 1) := by decide +kernel
theorem dX2_aheadOf_56 : decode cX2_aheadOf 56 = .ok (.iconst 0, 1) := by decide +kernel
theorem dX2_aheadOf_57 : decode cX2_aheadOf 57 = .ok (.ireturn, 1) := by decide +kernel
set_option maxRecDepth 20000 in
theorem ggX2_courseOf_X2_courseWithout : GoodIn wsX2_courseOf wsX2_courseWithout := goodIn_r _ [5, 6, 7, 8, 9, 10, 11, 12, 13, 14, 15, 4, 16, 17, 18, 19, 20, 21, 22, 23, 24, 25, 26, 27, 28, 29, 30, 31, 32, 33, 34, 35, 51, 52, 53, 54, 55, 56, 57, 58, 59, 60, 61, 62, 63, 64, 65, 66, 67, 68, 69, 70, 71, 72, 73, 74, 75, 76] (by decide +kernel) (by decide +kernel)
set_option maxRecDepth 20000 in
theorem gX2_courseOf_X2_courseWithout : GoodIn wsX2_courseOf (wsV RX2 123 RX2 yX2_courseWithout wsX2_courseWithout) := goodIn_app (goodIn_of _ (by decide +kernel)) ggX2_courseOf_X2_courseWithout
set_option maxRecDepth 20000 in
theorem ggX2_courseOf_X0_settle : GoodIn wsX2_courseOf wsX0_settle := goodIn_r _ [39, 24, 40, 41, 42, 43, 44, 45, 22, 46, 26, 27, 25, 47, 48, 49, 50, 70, 71, 72, 73, 74, 75, 76] (by decide +kernel) (by decide +kernel)
set_option maxRecDepth 20000 in
theorem gX2_courseOf_X0_settle : GoodIn wsX2_courseOf (wsV RX2 160 RX0 yX0_settle wsX0_settle) := goodIn_app (goodIn_of _ (by decide +kernel)) ggX2_courseOf_X0_settle
theorem dX2_courseOf_0 : decode cX2_courseOf 0 = .ok (.aload_n 0, 1) := by decide +kernel
theorem dX2_courseOf_1 : decode cX2_courseOf 1 = .ok (.iconst (-1), 1) := by decide +kernel
theorem dX2_courseOf_2 : decode cX2_courseOf 2 = .ok (.iload_n 1, 1) := by decide +kernel
theorem dX2_courseOf_3 : decode cX2_courseOf 3 = .ok (.invokevirtual 123, 3) := by decide +kernel
theorem dX2_courseOf_6 : decode cX2_courseOf 6 = .ok (.astore_n 2, 1) := by decide +kernel
theorem dX2_courseOf_7 : decode cX2_courseOf 7 = .ok (.aload_n 2, 1) := by decide +kernel
theorem dX2_courseOf_8 : decode cX2_courseOf 8 = .ok (.invokevirtual 160, 3) := by decide +kernel
theorem dX2_courseOf_11 : decode cX2_courseOf 11 = .ok (.aload_n 2, 1) := by decide +kernel
theorem dX2_courseOf_12 : decode cX2_courseOf 12 = .ok (.areturn, 1) := by decide +kernel
set_option maxRecDepth 20000 in
theorem ggX2_courseWithout_X2_aheadOf : GoodIn wsX2_courseWithout wsX2_aheadOf := goodIn_r _ [12, 2, 13, 14, 32, 33, 34, 35, 36, 37, 38, 39, 40, 41, 42, 43, 44, 45, 46, 47, 48, 49, 50] (by decide +kernel) (by decide +kernel)
set_option maxRecDepth 20000 in
theorem gX2_courseWithout_X2_aheadOf : GoodIn wsX2_courseWithout (wsV RX2 66 RX2 yX2_aheadOf wsX2_aheadOf) := goodIn_app (goodIn_of _ (by decide +kernel)) ggX2_courseWithout_X2_aheadOf
set_option maxRecDepth 20000 in
theorem ggX2_courseWithout_X0_start : GoodIn wsX2_courseWithout wsX0_start := goodIn_r _ [19, 20, 21, 22, 23, 51, 52, 53, 54, 55, 56, 57] (by decide +kernel) (by decide +kernel)
set_option maxRecDepth 20000 in
theorem gX2_courseWithout_X0_start : GoodIn wsX2_courseWithout (wsV RX2 225 RX0 yX0_start wsX0_start) := goodIn_app (goodIn_of _ (by decide +kernel)) ggX2_courseWithout_X0_start
set_option maxRecDepth 20000 in
theorem ggX2_courseWithout_X0_join : GoodIn wsX2_courseWithout wsX0_join := goodIn_r _ [27, 22, 23, 28, 11, 29, 30, 31, 51, 52, 53, 54, 55, 56, 57] (by decide +kernel) (by decide +kernel)
set_option maxRecDepth 20000 in
theorem gX2_courseWithout_X0_join : GoodIn wsX2_courseWithout (wsV RX2 229 RX0 yX0_join wsX0_join) := goodIn_app (goodIn_of _ (by decide +kernel)) ggX2_courseWithout_X0_join
theorem dX2_courseWithout_0 : decode cX2_courseWithout 0 = .ok (.aload_n 0, 1) := by decide +kernel
theorem dX2_courseWithout_1 : decode cX2_courseWithout 1 = .ok (.getfield 29, 3) := by decide +kernel
theorem dX2_courseWithout_4 : decode cX2_courseWithout 4 = .ok (.aload_n 0, 1) := by decide +kernel
theorem dX2_courseWithout_5 : decode cX2_courseWithout 5 = .ok (.iload_n 2, 1) := by decide +kernel
theorem dX2_courseWithout_6 : decode cX2_courseWithout 6 = .ok (.invokevirtual 66, 3) := by decide +kernel
theorem dX2_courseWithout_9 : decode cX2_courseWithout 9 = .ok (.aload_n 0, 1) := by decide +kernel
theorem dX2_courseWithout_10 : decode cX2_courseWithout 10 = .ok (.getfield 19, 3) := by decide +kernel
theorem dX2_courseWithout_13 : decode cX2_courseWithout 13 = .ok (.getfield 72, 3) := by decide +kernel
theorem dX2_courseWithout_16 : decode cX2_courseWithout 16 = .ok (.iload_n 2, 1) := by decide +kernel
theorem dX2_courseWithout_17 : decode cX2_courseWithout 17 = .ok (.iaload, 1) := by decide +kernel
theorem dX2_courseWithout_18 : decode cX2_courseWithout 18 = .ok (.invokevirtual 225, 3) := by decide +kernel
theorem dX2_courseWithout_21 : decode cX2_courseWithout 21 = .ok (.iconst 0, 1) := by decide +kernel
theorem dX2_courseWithout_22 : decode cX2_courseWithout 22 = .ok (.istore_n 3, 1) := by decide +kernel
theorem dX2_courseWithout_23 : decode cX2_courseWithout 23 = .ok (.iload_n 3, 1) := by decide +kernel
theorem dX2_courseWithout_24 : decode cX2_courseWithout 24 = .ok (.aload_n 0, 1) := by decide +kernel
theorem dX2_courseWithout_25 : decode cX2_courseWithout 25 = .ok (.getfield 19, 3) := by decide +kernel
theorem dX2_courseWithout_28 : decode cX2_courseWithout 28 = .ok (.getfield 94, 3) := by decide +kernel
theorem dX2_courseWithout_31 : decode cX2_courseWithout 31 = .ok (.if_icmp .ge 52, 3) := by decide +kernel
theorem dX2_courseWithout_34 : decode cX2_courseWithout 34 = .ok (.iload_n 3, 1) := by decide +kernel
theorem dX2_courseWithout_35 : decode cX2_courseWithout 35 = .ok (.iload_n 1, 1) := by decide +kernel
theorem dX2_courseWithout_36 : decode cX2_courseWithout 36 = .ok (.if_icmp .eq 41, 3) := by decide +kernel
theorem dX2_courseWithout_39 : decode cX2_courseWithout 39 = .ok (.aload_n 0, 1) := by decide +kernel
theorem dX2_courseWithout_40 : decode cX2_courseWithout 40 = .ok (.getfield 19, 3) := by decide +kernel
theorem dX2_courseWithout_43 : decode cX2_courseWithout 43 = .ok (.getfield 100, 3) := by decide +kernel
theorem dX2_courseWithout_46 : decode cX2_courseWithout 46 = .ok (.iload_n 3, 1) := by decide +kernel
theorem dX2_courseWithout_47 : decode cX2_courseWithout 47 = .ok (.iaload, 1) := by decide +kernel
theorem dX2_courseWithout_48 : decode cX2_courseWithout 48 = .ok (.iload_n 2, 1) := by decide +kernel
theorem dX2_courseWithout_49 : decode cX2_courseWithout 49 = .ok (.if_icmp .ne 28, 3) := by decide +kernel
theorem dX2_courseWithout_52 : decode cX2_courseWithout 52 = .ok (.aload_n 0, 1) := by decide +kernel
theorem dX2_courseWithout_53 : decode cX2_courseWithout 53 = .ok (.getfield 29, 3) := by decide +kernel
theorem dX2_courseWithout_56 : decode cX2_courseWithout 56 = .ok (.aload_n 0, 1) := by decide +kernel
theorem dX2_courseWithout_57 : decode cX2_courseWithout 57 = .ok (.getfield 19, 3) := by decide +kernel
theorem dX2_courseWithout_60 : decode cX2_courseWithout 60 = .ok (.getfield 97, 3) := by decide +kernel
theorem dX2_courseWithout_63 : decode cX2_courseWithout 63 = .ok (.iload_n 3, 1) := by decide +kernel
theorem dX2_courseWithout_64 : decode cX2_courseWithout 64 = .ok (.iaload, 1) := by decide +kernel
theorem dX2_courseWithout_65 : decode cX2_courseWithout 65 = .ok (.aload_n 0, 1) := by decide +kernel
theorem dX2_courseWithout_66 : decode cX2_courseWithout 66 = .ok (.getfield 19, 3) := by decide +kernel
theorem dX2_courseWithout_69 : decode cX2_courseWithout 69 = .ok (.getfield 103, 3) := by decide +kernel
theorem dX2_courseWithout_72 : decode cX2_courseWithout 72 = .ok (.iload_n 3, 1) := by decide +kernel
theorem dX2_courseWithout_73 : decode cX2_courseWithout 73 = .ok (.iaload, 1) := by decide +kernel
theorem dX2_courseWithout_74 : decode cX2_courseWithout 74 = .ok (.invokevirtual 229, 3) := by decide +kernel
theorem dX2_courseWithout_77 : decode cX2_courseWithout 77 = .ok (.iinc 3 1, 3) := by decide +kernel
theorem dX2_courseWithout_80 : decode cX2_courseWithout 80 = .ok (.goto (-57), 3) := by decide +kernel
theorem dX2_courseWithout_83 : decode cX2_courseWithout 83 = .ok (.aload_n 0, 1) := by decide +kernel
theorem dX2_courseWithout_84 : decode cX2_courseWithout 84 = .ok (.getfield 29, 3) := by decide +kernel
theorem dX2_courseWithout_87 : decode cX2_courseWithout 87 = .ok (.areturn, 1) := by decide +kernel
set_option maxRecDepth 20000 in
theorem ggX2_canBe_X2_courseWithout : GoodIn wsX2_canBe wsX2_courseWithout := goodIn_r _ [7, 8, 1, 9, 10, 2, 11, 12, 13, 14, 15, 6, 16, 17, 18, 19, 20, 21, 22, 23, 24, 25, 26, 27, 28, 29, 30, 31, 32, 33, 34, 35, 61, 62, 63, 64, 65, 66, 67, 68, 69, 70, 71, 72, 73, 74, 75, 76, 77, 78, 79, 80, 81, 82, 83, 84, 85, 86] (by decide +kernel) (by decide +kernel)
set_option maxRecDepth 20000 in
theorem gX2_canBe_X2_courseWithout : GoodIn wsX2_canBe (wsV RX2 123 RX2 yX2_courseWithout wsX2_courseWithout) := goodIn_app (goodIn_of _ (by decide +kernel)) ggX2_canBe_X2_courseWithout
set_option maxRecDepth 20000 in
theorem ggX2_canBe_X0_join : GoodIn wsX2_canBe wsX0_join := goodIn_r _ [31, 26, 27, 32, 6, 33, 34, 35, 80, 81, 82, 83, 84, 85, 86] (by decide +kernel) (by decide +kernel)
set_option maxRecDepth 20000 in
theorem gX2_canBe_X0_join : GoodIn wsX2_canBe (wsV RX2 229 RX0 yX0_join wsX0_join) := goodIn_app (goodIn_of _ (by decide +kernel)) ggX2_canBe_X0_join
set_option maxRecDepth 20000 in
theorem ggX2_canBe_X0_settle : GoodIn wsX2_canBe wsX0_settle := goodIn_r _ [39, 24, 40, 41, 42, 43, 44, 45, 22, 46, 26, 27, 25, 47, 48, 49, 50, 80, 81, 82, 83, 84, 85, 86] (by decide +kernel) (by decide +kernel)
set_option maxRecDepth 20000 in
theorem gX2_canBe_X0_settle : GoodIn wsX2_canBe (wsV RX2 160 RX0 yX0_settle wsX0_settle) := goodIn_app (goodIn_of _ (by decide +kernel)) ggX2_canBe_X0_settle
set_option maxRecDepth 20000 in
theorem ggX2_canBe_X2_isAsFound : GoodIn wsX2_canBe wsX2_isAsFound := goodIn_r _ [54, 1, 55, 56, 57, 58, 59, 22, 60, 42, 40, 41, 61, 62, 63, 64, 65, 66, 67, 68, 69, 70, 71, 72, 73, 74, 75, 76, 77, 78, 79, 80, 81, 82, 83, 84, 85, 86] (by decide +kernel) (by decide +kernel)
set_option maxRecDepth 20000 in
theorem gX2_canBe_X2_isAsFound : GoodIn wsX2_canBe (wsV RX2 163 RX2 yX2_isAsFound wsX2_isAsFound) := goodIn_app (goodIn_of _ (by decide +kernel)) ggX2_canBe_X2_isAsFound
theorem dX2_canBe_0 : decode cX2_canBe 0 = .ok (.aload_n 0, 1) := by decide +kernel
theorem dX2_canBe_1 : decode cX2_canBe 1 = .ok (.getfield 19, 3) := by decide +kernel
theorem dX2_canBe_4 : decode cX2_canBe 4 = .ok (.getfield 100, 3) := by decide +kernel
theorem dX2_canBe_7 : decode cX2_canBe 7 = .ok (.iload_n 1, 1) := by decide +kernel
theorem dX2_canBe_8 : decode cX2_canBe 8 = .ok (.iaload, 1) := by decide +kernel
theorem dX2_canBe_9 : decode cX2_canBe 9 = .ok (.istore 4, 2) := by decide +kernel
theorem dX2_canBe_11 : decode cX2_canBe 11 = .ok (.aload_n 0, 1) := by decide +kernel
theorem dX2_canBe_12 : decode cX2_canBe 12 = .ok (.iload_n 1, 1) := by decide +kernel
theorem dX2_canBe_13 : decode cX2_canBe 13 = .ok (.iload 4, 2) := by decide +kernel
theorem dX2_canBe_15 : decode cX2_canBe 15 = .ok (.invokevirtual 123, 3) := by decide +kernel
theorem dX2_canBe_18 : decode cX2_canBe 18 = .ok (.astore 5, 2) := by decide +kernel
theorem dX2_canBe_20 : decode cX2_canBe 20 = .ok (.aload 5, 2) := by decide +kernel
theorem dX2_canBe_22 : decode cX2_canBe 22 = .ok (.iload_n 2, 1) := by decide +kernel
theorem dX2_canBe_23 : decode cX2_canBe 23 = .ok (.iload_n 3, 1) := by decide +kernel
theorem dX2_canBe_24 : decode cX2_canBe 24 = .ok (.invokevirtual 229, 3) := by decide +kernel
theorem dX2_canBe_27 : decode cX2_canBe 27 = .ok (.aload 5, 2) := by decide +kernel
theorem dX2_canBe_29 : decode cX2_canBe 29 = .ok (.invokevirtual 160, 3) := by decide +kernel
theorem dX2_canBe_32 : decode cX2_canBe 32 = .ok (.aload_n 0, 1) := by decide +kernel
theorem dX2_canBe_33 : decode cX2_canBe 33 = .ok (.aload 5, 2) := by decide +kernel
theorem dX2_canBe_35 : decode cX2_canBe 35 = .ok (.iload 4, 2) := by decide +kernel
theorem dX2_canBe_37 : decode cX2_canBe 37 = .ok (.invokevirtual 163, 3) := by decide +kernel
theorem dX2_canBe_40 : decode cX2_canBe 40 = .ok (.ireturn, 1) := by decide +kernel
set_option maxRecDepth 20000 in
theorem ggX2_isAsFound_X0_allows : GoodIn wsX2_isAsFound wsX0_allows := goodIn_r _ [8, 9, 10, 11, 31, 32, 33, 34, 35, 36, 37] (by decide +kernel) (by decide +kernel)
set_option maxRecDepth 20000 in
theorem gX2_isAsFound_X0_allows : GoodIn wsX2_isAsFound (wsV RX2 232 RX0 yX0_allows wsX0_allows) := goodIn_app (goodIn_of _ (by decide +kernel)) ggX2_isAsFound_X0_allows
theorem dX2_isAsFound_0 : decode cX2_isAsFound 0 = .ok (.aload_n 1, 1) := by decide +kernel
theorem dX2_isAsFound_1 : decode cX2_isAsFound 1 = .ok (.aload_n 0, 1) := by decide +kernel
theorem dX2_isAsFound_2 : decode cX2_isAsFound 2 = .ok (.getfield 19, 3) := by decide +kernel
theorem dX2_isAsFound_5 : decode cX2_isAsFound 5 = .ok (.getfield 148, 3) := by decide +kernel
theorem dX2_isAsFound_8 : decode cX2_isAsFound 8 = .ok (.iload_n 2, 1) := by decide +kernel
theorem dX2_isAsFound_9 : decode cX2_isAsFound 9 = .ok (.iaload, 1) := by decide +kernel
theorem dX2_isAsFound_10 : decode cX2_isAsFound 10 = .ok (.aload_n 0, 1) := by decide +kernel
theorem dX2_isAsFound_11 : decode cX2_isAsFound 11 = .ok (.getfield 19, 3) := by decide +kernel
theorem dX2_isAsFound_14 : decode cX2_isAsFound 14 = .ok (.getfield 151, 3) := by decide +kernel
theorem dX2_isAsFound_17 : decode cX2_isAsFound 17 = .ok (.iload_n 2, 1) := by decide +kernel
theorem dX2_isAsFound_18 : decode cX2_isAsFound 18 = .ok (.iaload, 1) := by decide +kernel
theorem dX2_isAsFound_19 : decode cX2_isAsFound 19 = .ok (.invokevirtual 232, 3) := by decide +kernel
theorem dX2_isAsFound_22 : decode cX2_isAsFound 22 = .ok (.ireturn, 1) := by decide +kernel
set_option maxRecDepth 20000 in
theorem ggX2_drawersThatAgree_X2_courseOf : GoodIn wsX2_drawersThatAgree wsX2_courseOf := goodIn_r _ [7, 8, 9, 10, 6, 11, 12, 13, 14, 15, 16, 17, 18, 19, 20, 21, 22, 23, 24, 25, 26, 27, 28, 29, 30, 31, 32, 33, 34, 35, 36, 37, 38, 39, 40, 41, 42, 43, 44, 45, 46, 47, 48, 49, 50, 51, 52, 53, 54, 55, 56, 57, 58, 59, 60, 61, 62, 63, 64, 65, 66, 74, 75, 76, 77, 78, 79, 80, 81, 82, 67, 68, 69, 70, 71, 72, 73] (by decide +kernel) (by decide +kernel)
set_option maxRecDepth 20000 in
theorem gX2_drawersThatAgree_X2_courseOf : GoodIn wsX2_drawersThatAgree (wsV RX2 75 RX2 yX2_courseOf wsX2_courseOf) := goodIn_app (goodIn_of _ (by decide +kernel)) ggX2_drawersThatAgree_X2_courseOf
theorem dX2_drawersThatAgree_0 : decode cX2_drawersThatAgree 0 = .ok (.aload_n 0, 1) := by decide +kernel
theorem dX2_drawersThatAgree_1 : decode cX2_drawersThatAgree 1 = .ok (.getfield 49, 3) := by decide +kernel
theorem dX2_drawersThatAgree_4 : decode cX2_drawersThatAgree 4 = .ok (.ifCond .ne 5, 3) := by decide +kernel
theorem dX2_drawersThatAgree_7 : decode cX2_drawersThatAgree 7 = .ok (.iconst 0, 1) := by decide +kernel
theorem dX2_drawersThatAgree_8 : decode cX2_drawersThatAgree 8 = .ok (.ireturn, 1) := by decide +kernel
theorem dX2_drawersThatAgree_9 : decode cX2_drawersThatAgree 9 = .ok (.iconst 0, 1) := by decide +kernel
theorem dX2_drawersThatAgree_10 : decode cX2_drawersThatAgree 10 = .ok (.istore_n 1, 1) := by decide +kernel
theorem dX2_drawersThatAgree_11 : decode cX2_drawersThatAgree 11 = .ok (.iconst 0, 1) := by decide +kernel
theorem dX2_drawersThatAgree_12 : decode cX2_drawersThatAgree 12 = .ok (.istore_n 2, 1) := by decide +kernel
theorem dX2_drawersThatAgree_13 : decode cX2_drawersThatAgree 13 = .ok (.iload_n 2, 1) := by decide +kernel
theorem dX2_drawersThatAgree_14 : decode cX2_drawersThatAgree 14 = .ok (.bipush 9, 2) := by decide +kernel
theorem dX2_drawersThatAgree_16 : decode cX2_drawersThatAgree 16 = .ok (.if_icmp .ge 23, 3) := by decide +kernel
theorem dX2_drawersThatAgree_19 : decode cX2_drawersThatAgree 19 = .ok (.aload_n 0, 1) := by decide +kernel
theorem dX2_drawersThatAgree_20 : decode cX2_drawersThatAgree 20 = .ok (.iload_n 2, 1) := by decide +kernel
theorem dX2_drawersThatAgree_21 : decode cX2_drawersThatAgree 21 = .ok (.invokevirtual 75, 3) := by decide +kernel
theorem dX2_drawersThatAgree_24 : decode cX2_drawersThatAgree 24 = .ok (.getfield 180, 3) := by decide +kernel
theorem dX2_drawersThatAgree_27 : decode cX2_drawersThatAgree 27 = .ok (.ifCond .ne 6, 3) := by decide +kernel
theorem dX2_drawersThatAgree_30 : decode cX2_drawersThatAgree 30 = .ok (.iinc 1 1, 3) := by decide +kernel
theorem dX2_drawersThatAgree_33 : decode cX2_drawersThatAgree 33 = .ok (.iinc 2 1, 3) := by decide +kernel
theorem dX2_drawersThatAgree_36 : decode cX2_drawersThatAgree 36 = .ok (.goto (-23), 3) := by decide +kernel
theorem dX2_drawersThatAgree_39 : decode cX2_drawersThatAgree 39 = .ok (.iload_n 1, 1) := by decide +kernel
theorem dX2_drawersThatAgree_40 : decode cX2_drawersThatAgree 40 = .ok (.ireturn, 1) := by decide +kernel
set_option maxRecDepth 20000 in
theorem ggX2_fewestLaid_J6_bitCount_0f7a4 : GoodIn wsX2_fewestLaid wsJ6_bitCount_0f7a4 := goodIn_r _ [5, 6, 7, 8] (by decide +kernel) (by decide +kernel)
set_option maxRecDepth 20000 in
theorem gX2_fewestLaid_J6_bitCount_0f7a4 : GoodIn wsX2_fewestLaid (va_wsS RX2 140 yJ6_bitCount_0f7a4 wsJ6_bitCount_0f7a4) := goodIn_app (goodIn_of _ (by decide +kernel)) ggX2_fewestLaid_J6_bitCount_0f7a4
set_option maxRecDepth 20000 in
theorem ggX2_fewestLaid_X0_settle : GoodIn wsX2_fewestLaid wsX0_settle := goodIn_r _ [13, 14, 15, 16, 17, 18, 19, 20, 12, 21, 22, 23, 24, 25, 26, 27, 28, 33, 34, 35, 36, 37, 38, 39] (by decide +kernel) (by decide +kernel)
set_option maxRecDepth 20000 in
theorem gX2_fewestLaid_X0_settle : GoodIn wsX2_fewestLaid (wsV RX2 160 RX0 yX0_settle wsX0_settle) := goodIn_app (goodIn_of _ (by decide +kernel)) ggX2_fewestLaid_X0_settle
set_option maxRecDepth 20000 in
theorem ggX2_fewestLaid_X0_isSureOfAll : GoodIn wsX2_fewestLaid wsX0_isSureOfAll := goodIn_r _ [32, 17, 16, 33, 34, 35, 36, 37, 38, 39] (by decide +kernel) (by decide +kernel)
set_option maxRecDepth 20000 in
theorem gX2_fewestLaid_X0_isSureOfAll : GoodIn wsX2_fewestLaid (wsV RX2 235 RX0 yX0_isSureOfAll wsX0_isSureOfAll) := goodIn_app (goodIn_of _ (by decide +kernel)) ggX2_fewestLaid_X0_isSureOfAll
theorem dX2_fewestLaid_0 : decode cX2_fewestLaid 0 = .ok (.iconst (-1), 1) := by decide +kernel
theorem dX2_fewestLaid_1 : decode cX2_fewestLaid 1 = .ok (.istore_n 2, 1) := by decide +kernel
theorem dX2_fewestLaid_2 : decode cX2_fewestLaid 2 = .ok (.iconst 0, 1) := by decide +kernel
theorem dX2_fewestLaid_3 : decode cX2_fewestLaid 3 = .ok (.istore_n 3, 1) := by decide +kernel
theorem dX2_fewestLaid_4 : decode cX2_fewestLaid 4 = .ok (.iload_n 3, 1) := by decide +kernel
theorem dX2_fewestLaid_5 : decode cX2_fewestLaid 5 = .ok (.bipush 127, 2) := by decide +kernel
theorem dX2_fewestLaid_7 : decode cX2_fewestLaid 7 = .ok (.if_icmp .gt 44, 3) := by decide +kernel
theorem dX2_fewestLaid_10 : decode cX2_fewestLaid 10 = .ok (.iload_n 2, 1) := by decide +kernel
theorem dX2_fewestLaid_11 : decode cX2_fewestLaid 11 = .ok (.iconst (-1), 1) := by decide +kernel
theorem dX2_fewestLaid_12 : decode cX2_fewestLaid 12 = .ok (.if_icmp .eq 14, 3) := by decide +kernel
theorem dX2_fewestLaid_15 : decode cX2_fewestLaid 15 = .ok (.iload_n 3, 1) := by decide +kernel
theorem dX2_fewestLaid_16 : decode cX2_fewestLaid 16 = .ok (.invokestatic 140, 3) := by decide +kernel
theorem dX2_fewestLaid_19 : decode cX2_fewestLaid 19 = .ok (.iload_n 2, 1) := by decide +kernel
theorem dX2_fewestLaid_20 : decode cX2_fewestLaid 20 = .ok (.invokestatic 140, 3) := by decide +kernel
theorem dX2_fewestLaid_23 : decode cX2_fewestLaid 23 = .ok (.if_icmp .ge 22, 3) := by decide +kernel
theorem dX2_fewestLaid_26 : decode cX2_fewestLaid 26 = .ok (.aload_n 0, 1) := by decide +kernel
theorem dX2_fewestLaid_27 : decode cX2_fewestLaid 27 = .ok (.iload_n 3, 1) := by decide +kernel
theorem dX2_fewestLaid_28 : decode cX2_fewestLaid 28 = .ok (.putfield 171, 3) := by decide +kernel
theorem dX2_fewestLaid_31 : decode cX2_fewestLaid 31 = .ok (.aload_n 0, 1) := by decide +kernel
theorem dX2_fewestLaid_32 : decode cX2_fewestLaid 32 = .ok (.invokevirtual 160, 3) := by decide +kernel
theorem dX2_fewestLaid_35 : decode cX2_fewestLaid 35 = .ok (.aload_n 0, 1) := by decide +kernel
theorem dX2_fewestLaid_36 : decode cX2_fewestLaid 36 = .ok (.iload_n 1, 1) := by decide +kernel
theorem dX2_fewestLaid_37 : decode cX2_fewestLaid 37 = .ok (.invokevirtual 235, 3) := by decide +kernel
theorem dX2_fewestLaid_40 : decode cX2_fewestLaid 40 = .ok (.ifCond .eq 5, 3) := by decide +kernel
theorem dX2_fewestLaid_43 : decode cX2_fewestLaid 43 = .ok (.iload_n 3, 1) := by decide +kernel
theorem dX2_fewestLaid_44 : decode cX2_fewestLaid 44 = .ok (.istore_n 2, 1) := by decide +kernel
theorem dX2_fewestLaid_45 : decode cX2_fewestLaid 45 = .ok (.iinc 3 1, 3) := by decide +kernel
theorem dX2_fewestLaid_48 : decode cX2_fewestLaid 48 = .ok (.goto (-44), 3) := by decide +kernel
theorem dX2_fewestLaid_51 : decode cX2_fewestLaid 51 = .ok (.iload_n 2, 1) := by decide +kernel
theorem dX2_fewestLaid_52 : decode cX2_fewestLaid 52 = .ok (.ireturn, 1) := by decide +kernel
theorem dX2_nextSeed_0 : decode cX2_nextSeed 0 = .ok (.ldc 238, 2) := by decide +kernel
theorem dX2_nextSeed_2 : decode cX2_nextSeed 2 = .ok (.iload_n 0, 1) := by decide +kernel
theorem dX2_nextSeed_3 : decode cX2_nextSeed 3 = .ok (.imul, 1) := by decide +kernel
theorem dX2_nextSeed_4 : decode cX2_nextSeed 4 = .ok (.sipush 12345, 3) := by decide +kernel
theorem dX2_nextSeed_7 : decode cX2_nextSeed 7 = .ok (.iadd, 1) := by decide +kernel
theorem dX2_nextSeed_8 : decode cX2_nextSeed 8 = .ok (.ldc 239, 2) := by decide +kernel
theorem dX2_nextSeed_10 : decode cX2_nextSeed 10 = .ok (.iand, 1) := by decide +kernel
theorem dX2_nextSeed_11 : decode cX2_nextSeed 11 = .ok (.ireturn, 1) := by decide +kernel
theorem dX2_drawOf_0 : decode cX2_drawOf 0 = .ok (.iload_n 1, 1) := by decide +kernel
theorem dX2_drawOf_1 : decode cX2_drawOf 1 = .ok (.ifCond .le 12, 3) := by decide +kernel
theorem dX2_drawOf_4 : decode cX2_drawOf 4 = .ok (.iload_n 0, 1) := by decide +kernel
theorem dX2_drawOf_5 : decode cX2_drawOf 5 = .ok (.ldc 240, 2) := by decide +kernel
theorem dX2_drawOf_7 : decode cX2_drawOf 7 = .ok (.idiv, 1) := by decide +kernel
theorem dX2_drawOf_8 : decode cX2_drawOf 8 = .ok (.iload_n 1, 1) := by decide +kernel
theorem dX2_drawOf_9 : decode cX2_drawOf 9 = .ok (.irem, 1) := by decide +kernel
theorem dX2_drawOf_10 : decode cX2_drawOf 10 = .ok (.goto 4, 3) := by decide +kernel
theorem dX2_drawOf_13 : decode cX2_drawOf 13 = .ok (.iconst 0, 1) := by decide +kernel
theorem dX2_drawOf_14 : decode cX2_drawOf 14 = .ok (.ireturn, 1) := by decide +kernel
theorem dX3_init_0 : decode cX3_init 0 = .ok (.aload_n 0, 1) := by decide +kernel
theorem dX3_init_1 : decode cX3_init 1 = .ok (.invokespecial 1, 3) := by decide +kernel
theorem dX3_init_4 : decode cX3_init 4 = .ok (.aload_n 0, 1) := by decide +kernel
theorem dX3_init_5 : decode cX3_init 5 = .ok (.bipush 9, 2) := by decide +kernel
theorem dX3_init_7 : decode cX3_init 7 = .ok (.newarray .int, 2) := by decide +kernel
theorem dX3_init_9 : decode cX3_init 9 = .ok (.putfield 7, 3) := by decide +kernel
theorem dX3_init_12 : decode cX3_init 12 = .ok (.aload_n 0, 1) := by decide +kernel
theorem dX3_init_13 : decode cX3_init 13 = .ok (.bipush 9, 2) := by decide +kernel
theorem dX3_init_15 : decode cX3_init 15 = .ok (.newarray .int, 2) := by decide +kernel
theorem dX3_init_17 : decode cX3_init 17 = .ok (.putfield 13, 3) := by decide +kernel
theorem dX3_init_20 : decode cX3_init 20 = .ok (.aload_n 0, 1) := by decide +kernel
theorem dX3_init_21 : decode cX3_init 21 = .ok (.bipush 6, 2) := by decide +kernel
theorem dX3_init_23 : decode cX3_init 23 = .ok (.newarray .int, 2) := by decide +kernel
theorem dX3_init_25 : decode cX3_init 25 = .ok (.putfield 16, 3) := by decide +kernel
theorem dX3_init_28 : decode cX3_init 28 = .ok (.aload_n 0, 1) := by decide +kernel
theorem dX3_init_29 : decode cX3_init 29 = .ok (.bipush 6, 2) := by decide +kernel
theorem dX3_init_31 : decode cX3_init 31 = .ok (.newarray .int, 2) := by decide +kernel
theorem dX3_init_33 : decode cX3_init 33 = .ok (.putfield 19, 3) := by decide +kernel
theorem dX3_init_36 : decode cX3_init 36 = .ok (.aload_n 0, 1) := by decide +kernel
theorem dX3_init_37 : decode cX3_init 37 = .ok (.bipush 6, 2) := by decide +kernel
theorem dX3_init_39 : decode cX3_init 39 = .ok (.newarray .int, 2) := by decide +kernel
theorem dX3_init_41 : decode cX3_init 41 = .ok (.putfield 22, 3) := by decide +kernel
theorem dX3_init_44 : decode cX3_init 44 = .ok (.aload_n 0, 1) := by decide +kernel
theorem dX3_init_45 : decode cX3_init 45 = .ok (.bipush 8, 2) := by decide +kernel
theorem dX3_init_47 : decode cX3_init 47 = .ok (.newarray .int, 2) := by decide +kernel
theorem dX3_init_49 : decode cX3_init 49 = .ok (.putfield 25, 3) := by decide +kernel
theorem dX3_init_52 : decode cX3_init 52 = .ok (.aload_n 0, 1) := by decide +kernel
theorem dX3_init_53 : decode cX3_init 53 = .ok (.bipush 8, 2) := by decide +kernel
theorem dX3_init_55 : decode cX3_init 55 = .ok (.newarray .int, 2) := by decide +kernel
theorem dX3_init_57 : decode cX3_init 57 = .ok (.putfield 28, 3) := by decide +kernel
theorem dX3_init_60 : decode cX3_init 60 = .ok (.aload_n 0, 1) := by decide +kernel
theorem dX3_init_61 : decode cX3_init 61 = .ok (.bipush 8, 2) := by decide +kernel
theorem dX3_init_63 : decode cX3_init 63 = .ok (.newarray .int, 2) := by decide +kernel
theorem dX3_init_65 : decode cX3_init 65 = .ok (.putfield 31, 3) := by decide +kernel
theorem dX3_init_68 : decode cX3_init 68 = .ok (.aload_n 0, 1) := by decide +kernel
theorem dX3_init_69 : decode cX3_init 69 = .ok (.bipush 12, 2) := by decide +kernel
theorem dX3_init_71 : decode cX3_init 71 = .ok (.newarray .byte, 2) := by decide +kernel
theorem dX3_init_73 : decode cX3_init 73 = .ok (.putfield 34, 3) := by decide +kernel
theorem dX3_init_76 : decode cX3_init 76 = .ok (.aload_n 0, 1) := by decide +kernel
theorem dX3_init_77 : decode cX3_init 77 = .ok (.bipush 9, 2) := by decide +kernel
theorem dX3_init_79 : decode cX3_init 79 = .ok (.newarray .int, 2) := by decide +kernel
theorem dX3_init_81 : decode cX3_init 81 = .ok (.putfield 38, 3) := by decide +kernel
theorem dX3_init_84 : decode cX3_init 84 = .ok (.aload_n 0, 1) := by decide +kernel
theorem dX3_init_85 : decode cX3_init 85 = .ok (.bipush 6, 2) := by decide +kernel
theorem dX3_init_87 : decode cX3_init 87 = .ok (.newarray .int, 2) := by decide +kernel
theorem dX3_init_89 : decode cX3_init 89 = .ok (.putfield 41, 3) := by decide +kernel
theorem dX3_init_92 : decode cX3_init 92 = .ok (.aload_n 0, 1) := by decide +kernel
theorem dX3_init_93 : decode cX3_init 93 = .ok (.bipush 6, 2) := by decide +kernel
theorem dX3_init_95 : decode cX3_init 95 = .ok (.newarray .int, 2) := by decide +kernel
theorem dX3_init_97 : decode cX3_init 97 = .ok (.putfield 44, 3) := by decide +kernel
theorem dX3_init_100 : decode cX3_init 100 = .ok (.aload_n 0, 1) := by decide +kernel
theorem dX3_init_101 : decode cX3_init 101 = .ok (.bipush 8, 2) := by decide +kernel
theorem dX3_init_103 : decode cX3_init 103 = .ok (.newarray .int, 2) := by decide +kernel
theorem dX3_init_105 : decode cX3_init 105 = .ok (.putfield 47, 3) := by decide +kernel
theorem dX3_init_108 : decode cX3_init 108 = .ok (.aload_n 0, 1) := by decide +kernel
theorem dX3_init_109 : decode cX3_init 109 = .ok (.bipush 8, 2) := by decide +kernel
theorem dX3_init_111 : decode cX3_init 111 = .ok (.newarray .int, 2) := by decide +kernel
theorem dX3_init_113 : decode cX3_init 113 = .ok (.putfield 50, 3) := by decide +kernel
theorem dX3_init_116 : decode cX3_init 116 = .ok (.aload_n 0, 1) := by decide +kernel
theorem dX3_init_117 : decode cX3_init 117 = .ok (.bipush 8, 2) := by decide +kernel
theorem dX3_init_119 : decode cX3_init 119 = .ok (.newarray .int, 2) := by decide +kernel
theorem dX3_init_121 : decode cX3_init 121 = .ok (.putfield 53, 3) := by decide +kernel
theorem dX3_init_124 : decode cX3_init 124 = .ok (.return_, 1) := by decide +kernel
theorem dX3_within_0 : decode cX3_within 0 = .ok (.iload_n 0, 1) := by decide +kernel
theorem dX3_within_1 : decode cX3_within 1 = .ok (.iload_n 1, 1) := by decide +kernel
theorem dX3_within_2 : decode cX3_within 2 = .ok (.if_icmp .lt 12, 3) := by decide +kernel
theorem dX3_within_5 : decode cX3_within 5 = .ok (.iload_n 0, 1) := by decide +kernel
theorem dX3_within_6 : decode cX3_within 6 = .ok (.iload_n 2, 1) := by decide +kernel
theorem dX3_within_7 : decode cX3_within 7 = .ok (.if_icmp .gt 7, 3) := by decide +kernel
theorem dX3_within_10 : decode cX3_within 10 = .ok (.iconst 1, 1) := by decide +kernel
theorem dX3_within_11 : decode cX3_within 11 = .ok (.goto 4, 3) := by decide +kernel
theorem dX3_within_14 : decode cX3_within 14 = .ok (.iconst 0, 1) := by decide +kernel
theorem dX3_within_15 : decode cX3_within 15 = .ok (.ireturn, 1) := by decide +kernel
theorem dX3_has_0 : decode cX3_has 0 = .ok (.iload_n 0, 1) := by decide +kernel
theorem dX3_has_1 : decode cX3_has 1 = .ok (.iload_n 1, 1) := by decide +kernel
theorem dX3_has_2 : decode cX3_has 2 = .ok (.ishr, 1) := by decide +kernel
theorem dX3_has_3 : decode cX3_has 3 = .ok (.iconst 1, 1) := by decide +kernel
theorem dX3_has_4 : decode cX3_has 4 = .ok (.iand, 1) := by decide +kernel
theorem dX3_has_5 : decode cX3_has 5 = .ok (.iconst 1, 1) := by decide +kernel
theorem dX3_has_6 : decode cX3_has 6 = .ok (.if_icmp .ne 7, 3) := by decide +kernel
theorem dX3_has_9 : decode cX3_has 9 = .ok (.iconst 1, 1) := by decide +kernel
theorem dX3_has_10 : decode cX3_has 10 = .ok (.goto 4, 3) := by decide +kernel
theorem dX3_has_13 : decode cX3_has 13 = .ok (.iconst 0, 1) := by decide +kernel
theorem dX3_has_14 : decode cX3_has 14 = .ok (.ireturn, 1) := by decide +kernel
theorem dX3_size_0 : decode cX3_size 0 = .ok (.iconst 0, 1) := by decide +kernel
theorem dX3_size_1 : decode cX3_size 1 = .ok (.istore_n 1, 1) := by decide +kernel
theorem dX3_size_2 : decode cX3_size 2 = .ok (.iconst 0, 1) := by decide +kernel
theorem dX3_size_3 : decode cX3_size 3 = .ok (.istore_n 2, 1) := by decide +kernel
theorem dX3_size_4 : decode cX3_size 4 = .ok (.iload_n 2, 1) := by decide +kernel
theorem dX3_size_5 : decode cX3_size 5 = .ok (.bipush 7, 2) := by decide +kernel
theorem dX3_size_7 : decode cX3_size 7 = .ok (.if_icmp .ge 17, 3) := by decide +kernel
theorem dX3_size_10 : decode cX3_size 10 = .ok (.iload_n 1, 1) := by decide +kernel
theorem dX3_size_11 : decode cX3_size 11 = .ok (.iload_n 0, 1) := by decide +kernel
theorem dX3_size_12 : decode cX3_size 12 = .ok (.iload_n 2, 1) := by decide +kernel
theorem dX3_size_13 : decode cX3_size 13 = .ok (.ishr, 1) := by decide +kernel
theorem dX3_size_14 : decode cX3_size 14 = .ok (.iconst 1, 1) := by decide +kernel
theorem dX3_size_15 : decode cX3_size 15 = .ok (.iand, 1) := by decide +kernel
theorem dX3_size_16 : decode cX3_size 16 = .ok (.iadd, 1) := by decide +kernel
theorem dX3_size_17 : decode cX3_size 17 = .ok (.istore_n 1, 1) := by decide +kernel
theorem dX3_size_18 : decode cX3_size 18 = .ok (.iinc 2 1, 3) := by decide +kernel
theorem dX3_size_21 : decode cX3_size 21 = .ok (.goto (-17), 3) := by decide +kernel
theorem dX3_size_24 : decode cX3_size 24 = .ok (.iload_n 1, 1) := by decide +kernel
theorem dX3_size_25 : decode cX3_size 25 = .ok (.ireturn, 1) := by decide +kernel
set_option maxRecDepth 20000 in
theorem ggX3_letter_X3_within : GoodIn wsX3_letter wsX3_within := goodIn_r _ [6] (by decide +kernel) (by decide +kernel)
set_option maxRecDepth 20000 in
theorem gX3_letter_X3_within : GoodIn wsX3_letter (va_wsS RX3 56 yX3_within wsX3_within) := goodIn_app (goodIn_of _ (by decide +kernel)) ggX3_letter_X3_within
theorem dX3_letter_0 : decode cX3_letter 0 = .ok (.iload_n 1, 1) := by decide +kernel
theorem dX3_letter_1 : decode cX3_letter 1 = .ok (.bipush 32, 2) := by decide +kernel
theorem dX3_letter_3 : decode cX3_letter 3 = .ok (.bipush 126, 2) := by decide +kernel
theorem dX3_letter_5 : decode cX3_letter 5 = .ok (.invokestatic 56, 3) := by decide +kernel
theorem dX3_letter_8 : decode cX3_letter 8 = .ok (.ifCond .ne 6, 3) := by decide +kernel
theorem dX3_letter_11 : decode cX3_letter 11 = .ok (.bipush (-102), 2) := by decide +kernel
theorem dX3_letter_13 : decode cX3_letter 13 = .ok (.ireturn, 1) := by decide +kernel
theorem dX3_letter_14 : decode cX3_letter 14 = .ok (.aload_n 0, 1) := by decide +kernel
theorem dX3_letter_15 : decode cX3_letter 15 = .ok (.getfield 60, 3) := by decide +kernel
theorem dX3_letter_18 : decode cX3_letter 18 = .ok (.bipush 12, 2) := by decide +kernel
theorem dX3_letter_20 : decode cX3_letter 20 = .ok (.if_icmp .ne 6, 3) := by decide +kernel
theorem dX3_letter_23 : decode cX3_letter 23 = .ok (.bipush (-104), 2) := by decide +kernel
theorem dX3_letter_25 : decode cX3_letter 25 = .ok (.ireturn, 1) := by decide +kernel
theorem dX3_letter_26 : decode cX3_letter 26 = .ok (.aload_n 0, 1) := by decide +kernel
theorem dX3_letter_27 : decode cX3_letter 27 = .ok (.getfield 34, 3) := by decide +kernel
theorem dX3_letter_30 : decode cX3_letter 30 = .ok (.aload_n 0, 1) := by decide +kernel
theorem dX3_letter_31 : decode cX3_letter 31 = .ok (.getfield 60, 3) := by decide +kernel
theorem dX3_letter_34 : decode cX3_letter 34 = .ok (.iload_n 1, 1) := by decide +kernel
theorem dX3_letter_35 : decode cX3_letter 35 = .ok (.i2b, 1) := by decide +kernel
theorem dX3_letter_36 : decode cX3_letter 36 = .ok (.bastore, 1) := by decide +kernel
theorem dX3_letter_37 : decode cX3_letter 37 = .ok (.aload_n 0, 1) := by decide +kernel
theorem dX3_letter_38 : decode cX3_letter 38 = .ok (.dup, 1) := by decide +kernel
theorem dX3_letter_39 : decode cX3_letter 39 = .ok (.getfield 60, 3) := by decide +kernel
theorem dX3_letter_42 : decode cX3_letter 42 = .ok (.iconst 1, 1) := by decide +kernel
theorem dX3_letter_43 : decode cX3_letter 43 = .ok (.iadd, 1) := by decide +kernel
theorem dX3_letter_44 : decode cX3_letter 44 = .ok (.putfield 60, 3) := by decide +kernel
theorem dX3_letter_47 : decode cX3_letter 47 = .ok (.aload_n 0, 1) := by decide +kernel
theorem dX3_letter_48 : decode cX3_letter 48 = .ok (.getfield 60, 3) := by decide +kernel
theorem dX3_letter_51 : decode cX3_letter 51 = .ok (.ireturn, 1) := by decide +kernel
theorem dX3_blank_0 : decode cX3_blank 0 = .ok (.aload_n 0, 1) := by decide +kernel
theorem dX3_blank_1 : decode cX3_blank 1 = .ok (.getfield 60, 3) := by decide +kernel
theorem dX3_blank_4 : decode cX3_blank 4 = .ok (.istore_n 1, 1) := by decide +kernel
theorem dX3_blank_5 : decode cX3_blank 5 = .ok (.aload_n 0, 1) := by decide +kernel
theorem dX3_blank_6 : decode cX3_blank 6 = .ok (.iconst 0, 1) := by decide +kernel
theorem dX3_blank_7 : decode cX3_blank 7 = .ok (.putfield 60, 3) := by decide +kernel
theorem dX3_blank_10 : decode cX3_blank 10 = .ok (.iload_n 1, 1) := by decide +kernel
theorem dX3_blank_11 : decode cX3_blank 11 = .ok (.ireturn, 1) := by decide +kernel
theorem dX3_delayBy_0 : decode cX3_delayBy 0 = .ok (.iload_n 0, 1) := by decide +kernel
theorem dX3_delayBy_1 : decode cX3_delayBy 1 = .ok (.lookupswitch 72 #[(97, 64), (98, 66), (99, 68), (100, 70), (121, 59), (122, 62)], 59) := by decide +kernel
theorem dX3_delayBy_60 : decode cX3_delayBy 60 = .ok (.bipush (-2), 2) := by decide +kernel
theorem dX3_delayBy_62 : decode cX3_delayBy 62 = .ok (.ireturn, 1) := by decide +kernel
theorem dX3_delayBy_63 : decode cX3_delayBy 63 = .ok (.iconst (-1), 1) := by decide +kernel
theorem dX3_delayBy_64 : decode cX3_delayBy 64 = .ok (.ireturn, 1) := by decide +kernel
theorem dX3_delayBy_65 : decode cX3_delayBy 65 = .ok (.iconst 0, 1) := by decide +kernel
theorem dX3_delayBy_66 : decode cX3_delayBy 66 = .ok (.ireturn, 1) := by decide +kernel
theorem dX3_delayBy_67 : decode cX3_delayBy 67 = .ok (.iconst 1, 1) := by decide +kernel
theorem dX3_delayBy_68 : decode cX3_delayBy 68 = .ok (.ireturn, 1) := by decide +kernel
theorem dX3_delayBy_69 : decode cX3_delayBy 69 = .ok (.iconst 2, 1) := by decide +kernel
theorem dX3_delayBy_70 : decode cX3_delayBy 70 = .ok (.ireturn, 1) := by decide +kernel
theorem dX3_delayBy_71 : decode cX3_delayBy 71 = .ok (.iconst 3, 1) := by decide +kernel
theorem dX3_delayBy_72 : decode cX3_delayBy 72 = .ok (.ireturn, 1) := by decide +kernel
theorem dX3_delayBy_73 : decode cX3_delayBy 73 = .ok (.bipush 99, 2) := by decide +kernel
theorem dX3_delayBy_75 : decode cX3_delayBy 75 = .ok (.ireturn, 1) := by decide +kernel
set_option maxRecDepth 20000 in
theorem ggX3_faultNow_X3_delayBy : GoodIn wsX3_faultNow wsX3_delayBy := goodIn_r _ [6] (by decide +kernel) (by decide +kernel)
set_option maxRecDepth 20000 in
theorem gX3_faultNow_X3_delayBy : GoodIn wsX3_faultNow (va_wsS RX3 64 yX3_delayBy wsX3_delayBy) := goodIn_app (goodIn_of _ (by decide +kernel)) ggX3_faultNow_X3_delayBy
set_option maxRecDepth 20000 in
theorem ggX3_faultNow_X3_within : GoodIn wsX3_faultNow wsX3_within := goodIn_r _ [9] (by decide +kernel) (by decide +kernel)
set_option maxRecDepth 20000 in
theorem gX3_faultNow_X3_within : GoodIn wsX3_faultNow (va_wsS RX3 56 yX3_within wsX3_within) := goodIn_app (goodIn_of _ (by decide +kernel)) ggX3_faultNow_X3_within
theorem dX3_faultNow_0 : decode cX3_faultNow 0 = .ok (.iconst 0, 1) := by decide +kernel
theorem dX3_faultNow_1 : decode cX3_faultNow 1 = .ok (.istore_n 1, 1) := by decide +kernel
theorem dX3_faultNow_2 : decode cX3_faultNow 2 = .ok (.iload_n 1, 1) := by decide +kernel
theorem dX3_faultNow_3 : decode cX3_faultNow 3 = .ok (.aload_n 0, 1) := by decide +kernel
theorem dX3_faultNow_4 : decode cX3_faultNow 4 = .ok (.getfield 60, 3) := by decide +kernel
theorem dX3_faultNow_7 : decode cX3_faultNow 7 = .ok (.if_icmp .ge 55, 3) := by decide +kernel
theorem dX3_faultNow_10 : decode cX3_faultNow 10 = .ok (.iload_n 1, 1) := by decide +kernel
theorem dX3_faultNow_11 : decode cX3_faultNow 11 = .ok (.bipush 9, 2) := by decide +kernel
theorem dX3_faultNow_13 : decode cX3_faultNow 13 = .ok (.if_icmp .ge 20, 3) := by decide +kernel
theorem dX3_faultNow_16 : decode cX3_faultNow 16 = .ok (.aload_n 0, 1) := by decide +kernel
theorem dX3_faultNow_17 : decode cX3_faultNow 17 = .ok (.getfield 34, 3) := by decide +kernel
theorem dX3_faultNow_20 : decode cX3_faultNow 20 = .ok (.iload_n 1, 1) := by decide +kernel
theorem dX3_faultNow_21 : decode cX3_faultNow 21 = .ok (.baload, 1) := by decide +kernel
theorem dX3_faultNow_22 : decode cX3_faultNow 22 = .ok (.invokestatic 64, 3) := by decide +kernel
theorem dX3_faultNow_25 : decode cX3_faultNow 25 = .ok (.bipush 99, 2) := by decide +kernel
theorem dX3_faultNow_27 : decode cX3_faultNow 27 = .ok (.if_icmp .eq 35, 3) := by decide +kernel
theorem dX3_faultNow_30 : decode cX3_faultNow 30 = .ok (.goto 26, 3) := by decide +kernel
theorem dX3_faultNow_33 : decode cX3_faultNow 33 = .ok (.iload_n 1, 1) := by decide +kernel
theorem dX3_faultNow_34 : decode cX3_faultNow 34 = .ok (.bipush 9, 2) := by decide +kernel
theorem dX3_faultNow_36 : decode cX3_faultNow 36 = .ok (.if_icmp .ne 26, 3) := by decide +kernel
theorem dX3_faultNow_39 : decode cX3_faultNow 39 = .ok (.aload_n 0, 1) := by decide +kernel
theorem dX3_faultNow_40 : decode cX3_faultNow 40 = .ok (.getfield 34, 3) := by decide +kernel
theorem dX3_faultNow_43 : decode cX3_faultNow 43 = .ok (.iload_n 1, 1) := by decide +kernel
theorem dX3_faultNow_44 : decode cX3_faultNow 44 = .ok (.baload, 1) := by decide +kernel
theorem dX3_faultNow_45 : decode cX3_faultNow 45 = .ok (.bipush 48, 2) := by decide +kernel
theorem dX3_faultNow_47 : decode cX3_faultNow 47 = .ok (.isub, 1) := by decide +kernel
theorem dX3_faultNow_48 : decode cX3_faultNow 48 = .ok (.iconst 0, 1) := by decide +kernel
theorem dX3_faultNow_49 : decode cX3_faultNow 49 = .ok (.iconst 3, 1) := by decide +kernel
theorem dX3_faultNow_50 : decode cX3_faultNow 50 = .ok (.invokestatic 56, 3) := by decide +kernel
theorem dX3_faultNow_53 : decode cX3_faultNow 53 = .ok (.ifCond .eq 9, 3) := by decide +kernel
theorem dX3_faultNow_56 : decode cX3_faultNow 56 = .ok (.iinc 1 1, 3) := by decide +kernel
theorem dX3_faultNow_59 : decode cX3_faultNow 59 = .ok (.goto (-57), 3) := by decide +kernel
theorem dX3_faultNow_62 : decode cX3_faultNow 62 = .ok (.iload_n 1, 1) := by decide +kernel
theorem dX3_faultNow_63 : decode cX3_faultNow 63 = .ok (.ireturn, 1) := by decide +kernel
set_option maxRecDepth 20000 in
theorem ggX3_fault_X3_faultNow : GoodIn wsX3_fault wsX3_faultNow := goodIn_r _ [5, 6, 7, 8, 9, 4, 10, 11, 12, 13, 14, 15, 16, 17, 18, 19, 20, 21, 22, 23, 24, 25, 26, 27, 28, 29, 30, 31, 32, 33, 34, 35, 36, 37, 38, 39, 40, 41, 42] (by decide +kernel) (by decide +kernel)
set_option maxRecDepth 20000 in
theorem gX3_fault_X3_faultNow : GoodIn wsX3_fault (wsV RX3 68 RX3 yX3_faultNow wsX3_faultNow) := goodIn_app (goodIn_of _ (by decide +kernel)) ggX3_fault_X3_faultNow
theorem dX3_fault_0 : decode cX3_fault 0 = .ok (.aload_n 0, 1) := by decide +kernel
theorem dX3_fault_1 : decode cX3_fault 1 = .ok (.invokevirtual 68, 3) := by decide +kernel
theorem dX3_fault_4 : decode cX3_fault 4 = .ok (.ireturn, 1) := by decide +kernel
set_option maxRecDepth 20000 in
theorem ggX3_chest_X3_faultNow : GoodIn wsX3_chest wsX3_faultNow := goodIn_r _ [14, 1, 3, 15, 16, 13, 17, 18, 19, 20, 21, 22, 23, 24, 25, 26, 27, 28, 29, 30, 31, 32, 33, 34, 35, 36, 37, 38, 39, 40, 41, 42, 43, 44, 45, 46, 47, 48, 49] (by decide +kernel) (by decide +kernel)
set_option maxRecDepth 20000 in
theorem gX3_chest_X3_faultNow : GoodIn wsX3_chest (wsV RX3 68 RX3 yX3_faultNow wsX3_faultNow) := goodIn_app (goodIn_of _ (by decide +kernel)) ggX3_chest_X3_faultNow
set_option maxRecDepth 20000 in
theorem ggX3_chest_X3_delayBy : GoodIn wsX3_chest wsX3_delayBy := goodIn_r _ [17] (by decide +kernel) (by decide +kernel)
set_option maxRecDepth 20000 in
theorem gX3_chest_X3_delayBy : GoodIn wsX3_chest (va_wsS RX3 64 yX3_delayBy wsX3_delayBy) := goodIn_app (goodIn_of _ (by decide +kernel)) ggX3_chest_X3_delayBy
theorem dX3_chest_0 : decode cX3_chest 0 = .ok (.aload_n 0, 1) := by decide +kernel
theorem dX3_chest_1 : decode cX3_chest 1 = .ok (.getfield 60, 3) := by decide +kernel
theorem dX3_chest_4 : decode cX3_chest 4 = .ok (.bipush 10, 2) := by decide +kernel
theorem dX3_chest_6 : decode cX3_chest 6 = .ok (.if_icmp .ne 14, 3) := by decide +kernel
theorem dX3_chest_9 : decode cX3_chest 9 = .ok (.aload_n 0, 1) := by decide +kernel
theorem dX3_chest_10 : decode cX3_chest 10 = .ok (.invokevirtual 68, 3) := by decide +kernel
theorem dX3_chest_13 : decode cX3_chest 13 = .ok (.aload_n 0, 1) := by decide +kernel
theorem dX3_chest_14 : decode cX3_chest 14 = .ok (.getfield 60, 3) := by decide +kernel
theorem dX3_chest_17 : decode cX3_chest 17 = .ok (.if_icmp .eq 6, 3) := by decide +kernel
theorem dX3_chest_20 : decode cX3_chest 20 = .ok (.bipush (-103), 2) := by decide +kernel
theorem dX3_chest_22 : decode cX3_chest 22 = .ok (.ireturn, 1) := by decide +kernel
theorem dX3_chest_23 : decode cX3_chest 23 = .ok (.iconst 0, 1) := by decide +kernel
theorem dX3_chest_24 : decode cX3_chest 24 = .ok (.istore_n 1, 1) := by decide +kernel
theorem dX3_chest_25 : decode cX3_chest 25 = .ok (.iconst 0, 1) := by decide +kernel
theorem dX3_chest_26 : decode cX3_chest 26 = .ok (.istore_n 2, 1) := by decide +kernel
theorem dX3_chest_27 : decode cX3_chest 27 = .ok (.iload_n 2, 1) := by decide +kernel
theorem dX3_chest_28 : decode cX3_chest 28 = .ok (.bipush 9, 2) := by decide +kernel
theorem dX3_chest_30 : decode cX3_chest 30 = .ok (.if_icmp .ge 48, 3) := by decide +kernel
theorem dX3_chest_33 : decode cX3_chest 33 = .ok (.aload_n 0, 1) := by decide +kernel
theorem dX3_chest_34 : decode cX3_chest 34 = .ok (.getfield 7, 3) := by decide +kernel
theorem dX3_chest_37 : decode cX3_chest 37 = .ok (.iload_n 2, 1) := by decide +kernel
theorem dX3_chest_38 : decode cX3_chest 38 = .ok (.aload_n 0, 1) := by decide +kernel
theorem dX3_chest_39 : decode cX3_chest 39 = .ok (.getfield 34, 3) := by decide +kernel
theorem dX3_chest_42 : decode cX3_chest 42 = .ok (.iload_n 2, 1) := by decide +kernel
theorem dX3_chest_43 : decode cX3_chest 43 = .ok (.baload, 1) := by decide +kernel
theorem dX3_chest_44 : decode cX3_chest 44 = .ok (.invokestatic 64, 3) := by decide +kernel
theorem dX3_chest_47 : decode cX3_chest 47 = .ok (.iastore, 1) := by decide +kernel
theorem dX3_chest_48 : decode cX3_chest 48 = .ok (.aload_n 0, 1) := by decide +kernel
end
section
theorem dX3_chest_49 : decode cX3_chest 49 = .ok (.getfield 13, 3) := by decide +kernel
theorem dX3_chest_52 : decode cX3_chest 52 = .ok (.iload_n 2, 1) := by decide +kernel
theorem dX3_chest_53 : decode cX3_chest 53 = .ok (.iconst 0, 1) := by decide +kernel
theorem dX3_chest_54 : decode cX3_chest 54 = .ok (.iastore, 1) := by decide +kernel
theorem dX3_chest_55 : decode cX3_chest 55 = .ok (.iload_n 1, 1) := by decide +kernel
theorem dX3_chest_56 : decode cX3_chest 56 = .ok (.aload_n 0, 1) := by decide +kernel
theorem dX3_chest_57 : decode cX3_chest 57 = .ok (.getfield 7, 3) := by decide +kernel
theorem dX3_chest_60 : decode cX3_chest 60 = .ok (.iload_n 2, 1) := by decide +kernel
theorem dX3_chest_61 : decode cX3_chest 61 = .ok (.iaload, 1) := by decide +kernel
theorem dX3_chest_62 : decode cX3_chest 62 = .ok (.ifCond .ne 7, 3) := by decide +kernel
theorem dX3_chest_65 : decode cX3_chest 65 = .ok (.iconst 0, 1) := by decide +kernel
theorem dX3_chest_66 : decode cX3_chest 66 = .ok (.goto 4, 3) := by decide +kernel
theorem dX3_chest_69 : decode cX3_chest 69 = .ok (.iconst 1, 1) := by decide +kernel
theorem dX3_chest_70 : decode cX3_chest 70 = .ok (.iadd, 1) := by decide +kernel
theorem dX3_chest_71 : decode cX3_chest 71 = .ok (.istore_n 1, 1) := by decide +kernel
theorem dX3_chest_72 : decode cX3_chest 72 = .ok (.iinc 2 1, 3) := by decide +kernel
theorem dX3_chest_75 : decode cX3_chest 75 = .ok (.goto (-48), 3) := by decide +kernel
theorem dX3_chest_78 : decode cX3_chest 78 = .ok (.aload_n 0, 1) := by decide +kernel
theorem dX3_chest_79 : decode cX3_chest 79 = .ok (.aload_n 0, 1) := by decide +kernel
theorem dX3_chest_80 : decode cX3_chest 80 = .ok (.getfield 34, 3) := by decide +kernel
theorem dX3_chest_83 : decode cX3_chest 83 = .ok (.bipush 9, 2) := by decide +kernel
theorem dX3_chest_85 : decode cX3_chest 85 = .ok (.baload, 1) := by decide +kernel
theorem dX3_chest_86 : decode cX3_chest 86 = .ok (.bipush 48, 2) := by decide +kernel
theorem dX3_chest_88 : decode cX3_chest 88 = .ok (.isub, 1) := by decide +kernel
theorem dX3_chest_89 : decode cX3_chest 89 = .ok (.putfield 72, 3) := by decide +kernel
theorem dX3_chest_92 : decode cX3_chest 92 = .ok (.aload_n 0, 1) := by decide +kernel
theorem dX3_chest_93 : decode cX3_chest 93 = .ok (.iconst 1, 1) := by decide +kernel
theorem dX3_chest_94 : decode cX3_chest 94 = .ok (.putfield 75, 3) := by decide +kernel
theorem dX3_chest_97 : decode cX3_chest 97 = .ok (.aload_n 0, 1) := by decide +kernel
theorem dX3_chest_98 : decode cX3_chest 98 = .ok (.dup, 1) := by decide +kernel
theorem dX3_chest_99 : decode cX3_chest 99 = .ok (.getfield 79, 3) := by decide +kernel
theorem dX3_chest_102 : decode cX3_chest 102 = .ok (.iconst 1, 1) := by decide +kernel
theorem dX3_chest_103 : decode cX3_chest 103 = .ok (.iadd, 1) := by decide +kernel
theorem dX3_chest_104 : decode cX3_chest 104 = .ok (.putfield 79, 3) := by decide +kernel
theorem dX3_chest_107 : decode cX3_chest 107 = .ok (.aload_n 0, 1) := by decide +kernel
theorem dX3_chest_108 : decode cX3_chest 108 = .ok (.iconst 0, 1) := by decide +kernel
theorem dX3_chest_109 : decode cX3_chest 109 = .ok (.putfield 82, 3) := by decide +kernel
theorem dX3_chest_112 : decode cX3_chest 112 = .ok (.aload_n 0, 1) := by decide +kernel
theorem dX3_chest_113 : decode cX3_chest 113 = .ok (.iconst 0, 1) := by decide +kernel
theorem dX3_chest_114 : decode cX3_chest 114 = .ok (.putfield 85, 3) := by decide +kernel
theorem dX3_chest_117 : decode cX3_chest 117 = .ok (.aload_n 0, 1) := by decide +kernel
theorem dX3_chest_118 : decode cX3_chest 118 = .ok (.iconst 0, 1) := by decide +kernel
theorem dX3_chest_119 : decode cX3_chest 119 = .ok (.putfield 60, 3) := by decide +kernel
theorem dX3_chest_122 : decode cX3_chest 122 = .ok (.iload_n 1, 1) := by decide +kernel
theorem dX3_chest_123 : decode cX3_chest 123 = .ok (.ireturn, 1) := by decide +kernel
set_option maxRecDepth 20000 in
theorem ggX3_face_X3_within : GoodIn wsX3_face wsX3_within := goodIn_r _ [6] (by decide +kernel) (by decide +kernel)
set_option maxRecDepth 20000 in
theorem gX3_face_X3_within : GoodIn wsX3_face (va_wsS RX3 56 yX3_within wsX3_within) := goodIn_app (goodIn_of _ (by decide +kernel)) ggX3_face_X3_within
theorem dX3_face_0 : decode cX3_face 0 = .ok (.iload_n 1, 1) := by decide +kernel
theorem dX3_face_1 : decode cX3_face 1 = .ok (.iconst 0, 1) := by decide +kernel
theorem dX3_face_2 : decode cX3_face 2 = .ok (.iconst 3, 1) := by decide +kernel
theorem dX3_face_3 : decode cX3_face 3 = .ok (.invokestatic 56, 3) := by decide +kernel
theorem dX3_face_6 : decode cX3_face 6 = .ok (.ifCond .ne 6, 3) := by decide +kernel
theorem dX3_face_9 : decode cX3_face 9 = .ok (.bipush (-102), 2) := by decide +kernel
theorem dX3_face_11 : decode cX3_face 11 = .ok (.ireturn, 1) := by decide +kernel
theorem dX3_face_12 : decode cX3_face 12 = .ok (.aload_n 0, 1) := by decide +kernel
theorem dX3_face_13 : decode cX3_face 13 = .ok (.getfield 75, 3) := by decide +kernel
theorem dX3_face_16 : decode cX3_face 16 = .ok (.ifCond .ne 6, 3) := by decide +kernel
theorem dX3_face_19 : decode cX3_face 19 = .ok (.bipush (-103), 2) := by decide +kernel
theorem dX3_face_21 : decode cX3_face 21 = .ok (.ireturn, 1) := by decide +kernel
theorem dX3_face_22 : decode cX3_face 22 = .ok (.aload_n 0, 1) := by decide +kernel
theorem dX3_face_23 : decode cX3_face 23 = .ok (.getfield 72, 3) := by decide +kernel
theorem dX3_face_26 : decode cX3_face 26 = .ok (.istore_n 2, 1) := by decide +kernel
theorem dX3_face_27 : decode cX3_face 27 = .ok (.aload_n 0, 1) := by decide +kernel
theorem dX3_face_28 : decode cX3_face 28 = .ok (.iload_n 1, 1) := by decide +kernel
theorem dX3_face_29 : decode cX3_face 29 = .ok (.putfield 72, 3) := by decide +kernel
theorem dX3_face_32 : decode cX3_face 32 = .ok (.iload_n 2, 1) := by decide +kernel
theorem dX3_face_33 : decode cX3_face 33 = .ok (.ireturn, 1) := by decide +kernel
set_option maxRecDepth 20000 in
theorem ggX3_isDrawer_X3_within : GoodIn wsX3_isDrawer wsX3_within := goodIn_r _ [5] (by decide +kernel) (by decide +kernel)
set_option maxRecDepth 20000 in
theorem gX3_isDrawer_X3_within : GoodIn wsX3_isDrawer (va_wsS RX3 56 yX3_within wsX3_within) := goodIn_app (goodIn_of _ (by decide +kernel)) ggX3_isDrawer_X3_within
theorem dX3_isDrawer_0 : decode cX3_isDrawer 0 = .ok (.aload_n 0, 1) := by decide +kernel
theorem dX3_isDrawer_1 : decode cX3_isDrawer 1 = .ok (.getfield 75, 3) := by decide +kernel
theorem dX3_isDrawer_4 : decode cX3_isDrawer 4 = .ok (.ifCond .eq 17, 3) := by decide +kernel
theorem dX3_isDrawer_7 : decode cX3_isDrawer 7 = .ok (.iload_n 1, 1) := by decide +kernel
theorem dX3_isDrawer_8 : decode cX3_isDrawer 8 = .ok (.iconst 0, 1) := by decide +kernel
theorem dX3_isDrawer_9 : decode cX3_isDrawer 9 = .ok (.bipush 8, 2) := by decide +kernel
theorem dX3_isDrawer_11 : decode cX3_isDrawer 11 = .ok (.invokestatic 56, 3) := by decide +kernel
theorem dX3_isDrawer_14 : decode cX3_isDrawer 14 = .ok (.ifCond .eq 7, 3) := by decide +kernel
theorem dX3_isDrawer_17 : decode cX3_isDrawer 17 = .ok (.iconst 1, 1) := by decide +kernel
theorem dX3_isDrawer_18 : decode cX3_isDrawer 18 = .ok (.goto 4, 3) := by decide +kernel
theorem dX3_isDrawer_21 : decode cX3_isDrawer 21 = .ok (.iconst 0, 1) := by decide +kernel
theorem dX3_isDrawer_22 : decode cX3_isDrawer 22 = .ok (.ireturn, 1) := by decide +kernel
set_option maxRecDepth 20000 in
theorem ggX3_isDay_X3_within : GoodIn wsX3_isDay wsX3_within := goodIn_r _ [4] (by decide +kernel) (by decide +kernel)
set_option maxRecDepth 20000 in
theorem gX3_isDay_X3_within : GoodIn wsX3_isDay (va_wsS RX3 56 yX3_within wsX3_within) := goodIn_app (goodIn_of _ (by decide +kernel)) ggX3_isDay_X3_within
theorem dX3_isDay_0 : decode cX3_isDay 0 = .ok (.iload_n 0, 1) := by decide +kernel
theorem dX3_isDay_1 : decode cX3_isDay 1 = .ok (.iconst 0, 1) := by decide +kernel
theorem dX3_isDay_2 : decode cX3_isDay 2 = .ok (.bipush 6, 2) := by decide +kernel
theorem dX3_isDay_4 : decode cX3_isDay 4 = .ok (.invokestatic 56, 3) := by decide +kernel
theorem dX3_isDay_7 : decode cX3_isDay 7 = .ok (.ireturn, 1) := by decide +kernel
theorem dX3_aheadOf_0 : decode cX3_aheadOf 0 = .ok (.aload_n 0, 1) := by decide +kernel
theorem dX3_aheadOf_1 : decode cX3_aheadOf 1 = .ok (.getfield 72, 3) := by decide +kernel
theorem dX3_aheadOf_4 : decode cX3_aheadOf 4 = .ok (.tableswitch 52 0 2 #[28, 35, 44], 28) := by decide +kernel
theorem dX3_aheadOf_32 : decode cX3_aheadOf 32 = .ok (.aload_n 0, 1) := by decide +kernel
theorem dX3_aheadOf_33 : decode cX3_aheadOf 33 = .ok (.getfield 7, 3) := by decide +kernel
theorem dX3_aheadOf_36 : decode cX3_aheadOf 36 = .ok (.iload_n 1, 1) := by decide +kernel
theorem dX3_aheadOf_37 : decode cX3_aheadOf 37 = .ok (.iaload, 1) := by decide +kernel
theorem dX3_aheadOf_38 : decode cX3_aheadOf 38 = .ok (.ireturn, 1) := by decide +kernel
theorem dX3_aheadOf_39 : decode cX3_aheadOf 39 = .ok (.aload_n 0, 1) := by decide +kernel
theorem dX3_aheadOf_40 : decode cX3_aheadOf 40 = .ok (.getfield 7, 3) := by decide +kernel
theorem dX3_aheadOf_43 : decode cX3_aheadOf 43 = .ok (.iload_n 1, 1) := by decide +kernel
theorem dX3_aheadOf_44 : decode cX3_aheadOf 44 = .ok (.iaload, 1) := by decide +kernel
theorem dX3_aheadOf_45 : decode cX3_aheadOf 45 = .ok (.iconst 1, 1) := by decide +kernel
theorem dX3_aheadOf_46 : decode cX3_aheadOf 46 = .ok (.iadd, 1) := by decide +kernel
theorem dX3_aheadOf_47 : decode cX3_aheadOf 47 = .ok (.ireturn, 1) := by decide +kernel
theorem dX3_aheadOf_48 : decode cX3_aheadOf 48 = .ok (.aload_n 0, 1) := by decide +kernel
theorem dX3_aheadOf_49 : decode cX3_aheadOf 49 = .ok (.getfield 7, 3) := by decide +kernel
theorem dX3_aheadOf_52 : decode cX3_aheadOf 52 = .ok (.iload_n 1, 1) := by decide +kernel
theorem dX3_aheadOf_53 : decode cX3_aheadOf 53 = .ok (.iaload, 1) := by decide +kernel
theorem dX3_aheadOf_54 : decode cX3_aheadOf 54 = .ok (.ineg, 1) := by decide +kernel
theorem dX3_aheadOf_55 : decode cX3_aheadOf 55 = .ok (.ireturn, 1) := by decide +kernel
theorem dX3_aheadOf_56 : decode cX3_aheadOf 56 = .ok (.iconst 0, 1) := by decide +kernel
theorem dX3_aheadOf_57 : decode cX3_aheadOf 57 = .ok (.ireturn, 1) := by decide +kernel
theorem dX3_puts_0 : decode cX3_puts 0 = .ok (.iload_n 0, 1) := by decide +kernel
theorem dX3_puts_1 : decode cX3_puts 1 = .ok (.tableswitch 69 1 4 #[31, 33, 43, 54], 31) := by decide +kernel
theorem dX3_puts_32 : decode cX3_puts 32 = .ok (.iload_n 3, 1) := by decide +kernel
theorem dX3_puts_33 : decode cX3_puts 33 = .ok (.ireturn, 1) := by decide +kernel
theorem dX3_puts_34 : decode cX3_puts 34 = .ok (.iload_n 3, 1) := by decide +kernel
theorem dX3_puts_35 : decode cX3_puts 35 = .ok (.ifCond .ne 7, 3) := by decide +kernel
theorem dX3_puts_38 : decode cX3_puts 38 = .ok (.iconst 1, 1) := by decide +kernel
theorem dX3_puts_39 : decode cX3_puts 39 = .ok (.goto 4, 3) := by decide +kernel
theorem dX3_puts_42 : decode cX3_puts 42 = .ok (.iconst 0, 1) := by decide +kernel
theorem dX3_puts_43 : decode cX3_puts 43 = .ok (.ireturn, 1) := by decide +kernel
theorem dX3_puts_44 : decode cX3_puts 44 = .ok (.iload_n 2, 1) := by decide +kernel
theorem dX3_puts_45 : decode cX3_puts 45 = .ok (.iload_n 1, 1) := by decide +kernel
theorem dX3_puts_46 : decode cX3_puts 46 = .ok (.if_icmp .ne 7, 3) := by decide +kernel
theorem dX3_puts_49 : decode cX3_puts 49 = .ok (.iconst 1, 1) := by decide +kernel
theorem dX3_puts_50 : decode cX3_puts 50 = .ok (.goto 4, 3) := by decide +kernel
theorem dX3_puts_53 : decode cX3_puts 53 = .ok (.iconst 0, 1) := by decide +kernel
theorem dX3_puts_54 : decode cX3_puts 54 = .ok (.ireturn, 1) := by decide +kernel
theorem dX3_puts_55 : decode cX3_puts 55 = .ok (.iload_n 3, 1) := by decide +kernel
theorem dX3_puts_56 : decode cX3_puts 56 = .ok (.ifCond .ne 12, 3) := by decide +kernel
theorem dX3_puts_59 : decode cX3_puts 59 = .ok (.iload_n 2, 1) := by decide +kernel
theorem dX3_puts_60 : decode cX3_puts 60 = .ok (.iload_n 1, 1) := by decide +kernel
theorem dX3_puts_61 : decode cX3_puts 61 = .ok (.if_icmp .eq 7, 3) := by decide +kernel
theorem dX3_puts_64 : decode cX3_puts 64 = .ok (.iconst 1, 1) := by decide +kernel
theorem dX3_puts_65 : decode cX3_puts 65 = .ok (.goto 4, 3) := by decide +kernel
theorem dX3_puts_68 : decode cX3_puts 68 = .ok (.iconst 0, 1) := by decide +kernel
theorem dX3_puts_69 : decode cX3_puts 69 = .ok (.ireturn, 1) := by decide +kernel
theorem dX3_puts_70 : decode cX3_puts 70 = .ok (.iconst 0, 1) := by decide +kernel
theorem dX3_puts_71 : decode cX3_puts 71 = .ok (.ireturn, 1) := by decide +kernel
set_option maxRecDepth 20000 in
theorem ggX3_putBy_X3_has : GoodIn wsX3_putBy wsX3_has := goodIn_r _ [8] (by decide +kernel) (by decide +kernel)
set_option maxRecDepth 20000 in
theorem gX3_putBy_X3_has : GoodIn wsX3_putBy (va_wsS RX3 88 yX3_has wsX3_has) := goodIn_app (goodIn_of _ (by decide +kernel)) ggX3_putBy_X3_has
set_option maxRecDepth 20000 in
theorem ggX3_putBy_X3_puts : GoodIn wsX3_putBy wsX3_puts := goodIn_r _ [11] (by decide +kernel) (by decide +kernel)
set_option maxRecDepth 20000 in
theorem gX3_putBy_X3_puts : GoodIn wsX3_putBy (va_wsS RX3 92 yX3_puts wsX3_puts) := goodIn_app (goodIn_of _ (by decide +kernel)) ggX3_putBy_X3_puts
theorem dX3_putBy_0 : decode cX3_putBy 0 = .ok (.iconst 0, 1) := by decide +kernel
theorem dX3_putBy_1 : decode cX3_putBy 1 = .ok (.istore_n 3, 1) := by decide +kernel
theorem dX3_putBy_2 : decode cX3_putBy 2 = .ok (.iconst 0, 1) := by decide +kernel
theorem dX3_putBy_3 : decode cX3_putBy 3 = .ok (.istore 4, 2) := by decide +kernel
theorem dX3_putBy_5 : decode cX3_putBy 5 = .ok (.iload 4, 2) := by decide +kernel
theorem dX3_putBy_7 : decode cX3_putBy 7 = .ok (.aload_n 0, 1) := by decide +kernel
theorem dX3_putBy_8 : decode cX3_putBy 8 = .ok (.getfield 82, 3) := by decide +kernel
theorem dX3_putBy_11 : decode cX3_putBy 11 = .ok (.if_icmp .ge 75, 3) := by decide +kernel
theorem dX3_putBy_14 : decode cX3_putBy 14 = .ok (.iconst 0, 1) := by decide +kernel
theorem dX3_putBy_15 : decode cX3_putBy 15 = .ok (.istore 5, 2) := by decide +kernel
theorem dX3_putBy_17 : decode cX3_putBy 17 = .ok (.iload 5, 2) := by decide +kernel
theorem dX3_putBy_19 : decode cX3_putBy 19 = .ok (.bipush 7, 2) := by decide +kernel
theorem dX3_putBy_21 : decode cX3_putBy 21 = .ok (.if_icmp .ge 59, 3) := by decide +kernel
theorem dX3_putBy_24 : decode cX3_putBy 24 = .ok (.aload_n 0, 1) := by decide +kernel
theorem dX3_putBy_25 : decode cX3_putBy 25 = .ok (.getfield 19, 3) := by decide +kernel
theorem dX3_putBy_28 : decode cX3_putBy 28 = .ok (.iload 4, 2) := by decide +kernel
theorem dX3_putBy_30 : decode cX3_putBy 30 = .ok (.iaload, 1) := by decide +kernel
theorem dX3_putBy_31 : decode cX3_putBy 31 = .ok (.iload_n 1, 1) := by decide +kernel
theorem dX3_putBy_32 : decode cX3_putBy 32 = .ok (.if_icmp .ne 48, 3) := by decide +kernel
theorem dX3_putBy_35 : decode cX3_putBy 35 = .ok (.iload_n 3, 1) := by decide +kernel
theorem dX3_putBy_36 : decode cX3_putBy 36 = .ok (.aload_n 0, 1) := by decide +kernel
theorem dX3_putBy_37 : decode cX3_putBy 37 = .ok (.getfield 16, 3) := by decide +kernel
theorem dX3_putBy_40 : decode cX3_putBy 40 = .ok (.iload 4, 2) := by decide +kernel
theorem dX3_putBy_42 : decode cX3_putBy 42 = .ok (.iaload, 1) := by decide +kernel
theorem dX3_putBy_43 : decode cX3_putBy 43 = .ok (.aload_n 0, 1) := by decide +kernel
theorem dX3_putBy_44 : decode cX3_putBy 44 = .ok (.getfield 22, 3) := by decide +kernel
theorem dX3_putBy_47 : decode cX3_putBy 47 = .ok (.iload 4, 2) := by decide +kernel
theorem dX3_putBy_49 : decode cX3_putBy 49 = .ok (.iaload, 1) := by decide +kernel
theorem dX3_putBy_50 : decode cX3_putBy 50 = .ok (.iload 5, 2) := by decide +kernel
theorem dX3_putBy_52 : decode cX3_putBy 52 = .ok (.iload_n 2, 1) := by decide +kernel
theorem dX3_putBy_53 : decode cX3_putBy 53 = .ok (.iload 5, 2) := by decide +kernel
theorem dX3_putBy_55 : decode cX3_putBy 55 = .ok (.invokestatic 88, 3) := by decide +kernel
theorem dX3_putBy_58 : decode cX3_putBy 58 = .ok (.invokestatic 92, 3) := by decide +kernel
theorem dX3_putBy_61 : decode cX3_putBy 61 = .ok (.ifCond .eq 10, 3) := by decide +kernel
theorem dX3_putBy_64 : decode cX3_putBy 64 = .ok (.iconst 1, 1) := by decide +kernel
theorem dX3_putBy_65 : decode cX3_putBy 65 = .ok (.iload 5, 2) := by decide +kernel
theorem dX3_putBy_67 : decode cX3_putBy 67 = .ok (.ishl, 1) := by decide +kernel
theorem dX3_putBy_68 : decode cX3_putBy 68 = .ok (.goto 4, 3) := by decide +kernel
theorem dX3_putBy_71 : decode cX3_putBy 71 = .ok (.iconst 0, 1) := by decide +kernel
theorem dX3_putBy_72 : decode cX3_putBy 72 = .ok (.ior, 1) := by decide +kernel
theorem dX3_putBy_73 : decode cX3_putBy 73 = .ok (.istore_n 3, 1) := by decide +kernel
theorem dX3_putBy_74 : decode cX3_putBy 74 = .ok (.iinc 5 1, 3) := by decide +kernel
theorem dX3_putBy_77 : decode cX3_putBy 77 = .ok (.goto (-60), 3) := by decide +kernel
theorem dX3_putBy_80 : decode cX3_putBy 80 = .ok (.iinc 4 1, 3) := by decide +kernel
theorem dX3_putBy_83 : decode cX3_putBy 83 = .ok (.goto (-78), 3) := by decide +kernel
theorem dX3_putBy_86 : decode cX3_putBy 86 = .ok (.iload_n 3, 1) := by decide +kernel
theorem dX3_putBy_87 : decode cX3_putBy 87 = .ok (.ireturn, 1) := by decide +kernel
set_option maxRecDepth 20000 in
theorem ggX3_firstWrong_X3_putBy : GoodIn wsX3_firstWrong wsX3_putBy := goodIn_r _ [5, 6, 7, 8, 9, 10, 11, 4, 12, 13, 14, 15, 16, 17, 18, 19, 20, 21, 22, 23, 24, 25, 26, 27, 28, 29, 30, 31, 32, 33, 34, 35, 36, 37, 38, 39, 40, 41, 42, 43, 44] (by decide +kernel) (by decide +kernel)
set_option maxRecDepth 20000 in
theorem gX3_firstWrong_X3_putBy : GoodIn wsX3_firstWrong (wsV RX3 96 RX3 yX3_putBy wsX3_putBy) := goodIn_app (goodIn_of _ (by decide +kernel)) ggX3_firstWrong_X3_putBy
set_option maxRecDepth 20000 in
theorem ggX3_firstWrong_X3_has : GoodIn wsX3_firstWrong wsX3_has := goodIn_r _ [12] (by decide +kernel) (by decide +kernel)
set_option maxRecDepth 20000 in
theorem gX3_firstWrong_X3_has : GoodIn wsX3_firstWrong (va_wsS RX3 88 yX3_has wsX3_has) := goodIn_app (goodIn_of _ (by decide +kernel)) ggX3_firstWrong_X3_has
theorem dX3_firstWrong_0 : decode cX3_firstWrong 0 = .ok (.aload_n 0, 1) := by decide +kernel
theorem dX3_firstWrong_1 : decode cX3_firstWrong 1 = .ok (.iload_n 1, 1) := by decide +kernel
theorem dX3_firstWrong_2 : decode cX3_firstWrong 2 = .ok (.iload_n 2, 1) := by decide +kernel
theorem dX3_firstWrong_3 : decode cX3_firstWrong 3 = .ok (.invokevirtual 96, 3) := by decide +kernel
theorem dX3_firstWrong_6 : decode cX3_firstWrong 6 = .ok (.iload 4, 2) := by decide +kernel
theorem dX3_firstWrong_8 : decode cX3_firstWrong 8 = .ok (.ior, 1) := by decide +kernel
theorem dX3_firstWrong_9 : decode cX3_firstWrong 9 = .ok (.istore 5, 2) := by decide +kernel
theorem dX3_firstWrong_11 : decode cX3_firstWrong 11 = .ok (.iload_n 3, 1) := by decide +kernel
theorem dX3_firstWrong_12 : decode cX3_firstWrong 12 = .ok (.ifCond .lt 10, 3) := by decide +kernel
theorem dX3_firstWrong_15 : decode cX3_firstWrong 15 = .ok (.iload 5, 2) := by decide +kernel
theorem dX3_firstWrong_17 : decode cX3_firstWrong 17 = .ok (.iload_n 3, 1) := by decide +kernel
theorem dX3_firstWrong_18 : decode cX3_firstWrong 18 = .ok (.ishl, 1) := by decide +kernel
theorem dX3_firstWrong_19 : decode cX3_firstWrong 19 = .ok (.goto 8, 3) := by decide +kernel
theorem dX3_firstWrong_22 : decode cX3_firstWrong 22 = .ok (.iload 5, 2) := by decide +kernel
theorem dX3_firstWrong_24 : decode cX3_firstWrong 24 = .ok (.iload_n 3, 1) := by decide +kernel
theorem dX3_firstWrong_25 : decode cX3_firstWrong 25 = .ok (.ineg, 1) := by decide +kernel
theorem dX3_firstWrong_26 : decode cX3_firstWrong 26 = .ok (.ishr, 1) := by decide +kernel
theorem dX3_firstWrong_27 : decode cX3_firstWrong 27 = .ok (.bipush 127, 2) := by decide +kernel
theorem dX3_firstWrong_29 : decode cX3_firstWrong 29 = .ok (.iand, 1) := by decide +kernel
theorem dX3_firstWrong_30 : decode cX3_firstWrong 30 = .ok (.istore 6, 2) := by decide +kernel
theorem dX3_firstWrong_32 : decode cX3_firstWrong 32 = .ok (.iconst 0, 1) := by decide +kernel
theorem dX3_firstWrong_33 : decode cX3_firstWrong 33 = .ok (.istore 7, 2) := by decide +kernel
theorem dX3_firstWrong_35 : decode cX3_firstWrong 35 = .ok (.iload 7, 2) := by decide +kernel
theorem dX3_firstWrong_37 : decode cX3_firstWrong 37 = .ok (.bipush 7, 2) := by decide +kernel
theorem dX3_firstWrong_39 : decode cX3_firstWrong 39 = .ok (.if_icmp .ge 25, 3) := by decide +kernel
theorem dX3_firstWrong_42 : decode cX3_firstWrong 42 = .ok (.iload_n 2, 1) := by decide +kernel
theorem dX3_firstWrong_43 : decode cX3_firstWrong 43 = .ok (.iload 7, 2) := by decide +kernel
theorem dX3_firstWrong_45 : decode cX3_firstWrong 45 = .ok (.invokestatic 88, 3) := by decide +kernel
theorem dX3_firstWrong_48 : decode cX3_firstWrong 48 = .ok (.iload 6, 2) := by decide +kernel
theorem dX3_firstWrong_50 : decode cX3_firstWrong 50 = .ok (.iload 7, 2) := by decide +kernel
theorem dX3_firstWrong_52 : decode cX3_firstWrong 52 = .ok (.invokestatic 88, 3) := by decide +kernel
theorem dX3_firstWrong_55 : decode cX3_firstWrong 55 = .ok (.if_icmp .ne 9, 3) := by decide +kernel
theorem dX3_firstWrong_58 : decode cX3_firstWrong 58 = .ok (.iinc 7 1, 3) := by decide +kernel
theorem dX3_firstWrong_61 : decode cX3_firstWrong 61 = .ok (.goto (-26), 3) := by decide +kernel
theorem dX3_firstWrong_64 : decode cX3_firstWrong 64 = .ok (.iload 7, 2) := by decide +kernel
theorem dX3_firstWrong_66 : decode cX3_firstWrong 66 = .ok (.ireturn, 1) := by decide +kernel
set_option maxRecDepth 20000 in
theorem ggX3_isSo_X3_aheadOf : GoodIn wsX3_isSo wsX3_aheadOf := goodIn_r _ [6, 7, 8, 27, 28, 29, 30, 31, 32, 33, 34, 35, 36, 37, 38, 39, 40, 41, 42, 43, 44, 45, 46, 47, 48, 49, 50, 51, 52, 53, 54, 55] (by decide +kernel) (by decide +kernel)
set_option maxRecDepth 20000 in
theorem gX3_isSo_X3_aheadOf : GoodIn wsX3_isSo (wsV RX3 100 RX3 yX3_aheadOf wsX3_aheadOf) := goodIn_app (goodIn_of _ (by decide +kernel)) ggX3_isSo_X3_aheadOf
set_option maxRecDepth 20000 in
theorem ggX3_isSo_X3_firstWrong : GoodIn wsX3_isSo wsX3_firstWrong := goodIn_r _ [12, 13, 14, 15, 5, 16, 17, 18, 19, 20, 21, 22, 23, 24, 25, 26, 27, 28, 29, 30, 31, 32, 33, 34, 35, 36, 37, 38, 39, 40, 41, 42, 43, 44, 45, 46, 47, 48, 49, 50, 51, 52, 53, 54, 55] (by decide +kernel) (by decide +kernel)
set_option maxRecDepth 20000 in
theorem gX3_isSo_X3_firstWrong : GoodIn wsX3_isSo (wsV RX3 103 RX3 yX3_firstWrong wsX3_firstWrong) := goodIn_app (goodIn_of _ (by decide +kernel)) ggX3_isSo_X3_firstWrong
theorem dX3_isSo_0 : decode cX3_isSo 0 = .ok (.aload_n 0, 1) := by decide +kernel
theorem dX3_isSo_1 : decode cX3_isSo 1 = .ok (.iload_n 1, 1) := by decide +kernel
theorem dX3_isSo_2 : decode cX3_isSo 2 = .ok (.iload_n 2, 1) := by decide +kernel
theorem dX3_isSo_3 : decode cX3_isSo 3 = .ok (.aload_n 0, 1) := by decide +kernel
theorem dX3_isSo_4 : decode cX3_isSo 4 = .ok (.iload_n 1, 1) := by decide +kernel
theorem dX3_isSo_5 : decode cX3_isSo 5 = .ok (.invokevirtual 100, 3) := by decide +kernel
theorem dX3_isSo_8 : decode cX3_isSo 8 = .ok (.aload_n 0, 1) := by decide +kernel
theorem dX3_isSo_9 : decode cX3_isSo 9 = .ok (.getfield 13, 3) := by decide +kernel
theorem dX3_isSo_12 : decode cX3_isSo 12 = .ok (.iload_n 1, 1) := by decide +kernel
theorem dX3_isSo_13 : decode cX3_isSo 13 = .ok (.iaload, 1) := by decide +kernel
theorem dX3_isSo_14 : decode cX3_isSo 14 = .ok (.invokevirtual 103, 3) := by decide +kernel
theorem dX3_isSo_17 : decode cX3_isSo 17 = .ok (.bipush 7, 2) := by decide +kernel
theorem dX3_isSo_19 : decode cX3_isSo 19 = .ok (.if_icmp .ne 7, 3) := by decide +kernel
theorem dX3_isSo_22 : decode cX3_isSo 22 = .ok (.iconst 1, 1) := by decide +kernel
theorem dX3_isSo_23 : decode cX3_isSo 23 = .ok (.goto 4, 3) := by decide +kernel
theorem dX3_isSo_26 : decode cX3_isSo 26 = .ok (.iconst 0, 1) := by decide +kernel
theorem dX3_isSo_27 : decode cX3_isSo 27 = .ok (.ireturn, 1) := by decide +kernel
set_option maxRecDepth 20000 in
theorem ggX3_agreeing_X3_isSo : GoodIn wsX3_agreeing wsX3_isSo := goodIn_r _ [5, 6, 7, 8, 9, 4, 10, 11, 12, 13, 14, 15, 16, 17, 18, 19, 20, 21, 22, 23, 24, 25, 26, 27, 28, 29, 30, 31, 32, 33, 34, 35, 36, 37, 38, 39, 40, 41, 42, 43, 44, 45, 46, 47, 48, 49, 50, 51, 52, 53, 54, 55, 56, 57, 58, 59] (by decide +kernel) (by decide +kernel)
set_option maxRecDepth 20000 in
theorem gX3_agreeing_X3_isSo : GoodIn wsX3_agreeing (wsV RX3 107 RX3 yX3_isSo wsX3_isSo) := goodIn_app (goodIn_of _ (by decide +kernel)) ggX3_agreeing_X3_isSo
theorem dX3_agreeing_0 : decode cX3_agreeing 0 = .ok (.iconst 0, 1) := by decide +kernel
theorem dX3_agreeing_1 : decode cX3_agreeing 1 = .ok (.istore_n 2, 1) := by decide +kernel
theorem dX3_agreeing_2 : decode cX3_agreeing 2 = .ok (.iconst 0, 1) := by decide +kernel
theorem dX3_agreeing_3 : decode cX3_agreeing 3 = .ok (.istore_n 3, 1) := by decide +kernel
theorem dX3_agreeing_4 : decode cX3_agreeing 4 = .ok (.iload_n 3, 1) := by decide +kernel
theorem dX3_agreeing_5 : decode cX3_agreeing 5 = .ok (.sipush 128, 3) := by decide +kernel
theorem dX3_agreeing_8 : decode cX3_agreeing 8 = .ok (.if_icmp .ge 26, 3) := by decide +kernel
theorem dX3_agreeing_11 : decode cX3_agreeing 11 = .ok (.iload_n 2, 1) := by decide +kernel
theorem dX3_agreeing_12 : decode cX3_agreeing 12 = .ok (.aload_n 0, 1) := by decide +kernel
theorem dX3_agreeing_13 : decode cX3_agreeing 13 = .ok (.iload_n 1, 1) := by decide +kernel
theorem dX3_agreeing_14 : decode cX3_agreeing 14 = .ok (.iload_n 3, 1) := by decide +kernel
theorem dX3_agreeing_15 : decode cX3_agreeing 15 = .ok (.invokevirtual 107, 3) := by decide +kernel
theorem dX3_agreeing_18 : decode cX3_agreeing 18 = .ok (.ifCond .eq 7, 3) := by decide +kernel
theorem dX3_agreeing_21 : decode cX3_agreeing 21 = .ok (.iconst 1, 1) := by decide +kernel
theorem dX3_agreeing_22 : decode cX3_agreeing 22 = .ok (.goto 4, 3) := by decide +kernel
theorem dX3_agreeing_25 : decode cX3_agreeing 25 = .ok (.iconst 0, 1) := by decide +kernel
theorem dX3_agreeing_26 : decode cX3_agreeing 26 = .ok (.iadd, 1) := by decide +kernel
theorem dX3_agreeing_27 : decode cX3_agreeing 27 = .ok (.istore_n 2, 1) := by decide +kernel
theorem dX3_agreeing_28 : decode cX3_agreeing 28 = .ok (.iinc 3 1, 3) := by decide +kernel
theorem dX3_agreeing_31 : decode cX3_agreeing 31 = .ok (.goto (-27), 3) := by decide +kernel
theorem dX3_agreeing_34 : decode cX3_agreeing 34 = .ok (.iload_n 2, 1) := by decide +kernel
theorem dX3_agreeing_35 : decode cX3_agreeing 35 = .ok (.ireturn, 1) := by decide +kernel
set_option maxRecDepth 20000 in
theorem ggX3_cannotOf_X3_aheadOf : GoodIn wsX3_cannotOf wsX3_aheadOf := goodIn_r _ [6, 7, 8, 27, 28, 29, 30, 31, 32, 33, 34, 35, 36, 37, 38, 39, 40, 41, 42, 43, 44, 45, 46, 47, 48, 49, 50, 51, 52, 53, 54, 55] (by decide +kernel) (by decide +kernel)
set_option maxRecDepth 20000 in
theorem gX3_cannotOf_X3_aheadOf : GoodIn wsX3_cannotOf (wsV RX3 100 RX3 yX3_aheadOf wsX3_aheadOf) := goodIn_app (goodIn_of _ (by decide +kernel)) ggX3_cannotOf_X3_aheadOf
set_option maxRecDepth 20000 in
theorem ggX3_cannotOf_X3_firstWrong : GoodIn wsX3_cannotOf wsX3_firstWrong := goodIn_r _ [12, 13, 14, 15, 5, 16, 17, 18, 19, 20, 21, 22, 23, 24, 25, 26, 27, 28, 29, 30, 31, 32, 33, 34, 35, 36, 37, 38, 39, 40, 41, 42, 43, 44, 45, 46, 47, 48, 49, 50, 51, 52, 53, 54, 55] (by decide +kernel) (by decide +kernel)
set_option maxRecDepth 20000 in
theorem gX3_cannotOf_X3_firstWrong : GoodIn wsX3_cannotOf (wsV RX3 103 RX3 yX3_firstWrong wsX3_firstWrong) := goodIn_app (goodIn_of _ (by decide +kernel)) ggX3_cannotOf_X3_firstWrong
theorem dX3_cannotOf_0 : decode cX3_cannotOf 0 = .ok (.iconst 0, 1) := by decide +kernel
theorem dX3_cannotOf_1 : decode cX3_cannotOf 1 = .ok (.istore_n 2, 1) := by decide +kernel
theorem dX3_cannotOf_2 : decode cX3_cannotOf 2 = .ok (.iconst 0, 1) := by decide +kernel
theorem dX3_cannotOf_3 : decode cX3_cannotOf 3 = .ok (.istore_n 3, 1) := by decide +kernel
theorem dX3_cannotOf_4 : decode cX3_cannotOf 4 = .ok (.iload_n 3, 1) := by decide +kernel
theorem dX3_cannotOf_5 : decode cX3_cannotOf 5 = .ok (.sipush 128, 3) := by decide +kernel
theorem dX3_cannotOf_8 : decode cX3_cannotOf 8 = .ok (.if_icmp .ge 41, 3) := by decide +kernel
theorem dX3_cannotOf_11 : decode cX3_cannotOf 11 = .ok (.aload_n 0, 1) := by decide +kernel
theorem dX3_cannotOf_12 : decode cX3_cannotOf 12 = .ok (.iload_n 1, 1) := by decide +kernel
theorem dX3_cannotOf_13 : decode cX3_cannotOf 13 = .ok (.iload_n 3, 1) := by decide +kernel
theorem dX3_cannotOf_14 : decode cX3_cannotOf 14 = .ok (.aload_n 0, 1) := by decide +kernel
theorem dX3_cannotOf_15 : decode cX3_cannotOf 15 = .ok (.iload_n 1, 1) := by decide +kernel
theorem dX3_cannotOf_16 : decode cX3_cannotOf 16 = .ok (.invokevirtual 100, 3) := by decide +kernel
theorem dX3_cannotOf_19 : decode cX3_cannotOf 19 = .ok (.aload_n 0, 1) := by decide +kernel
theorem dX3_cannotOf_20 : decode cX3_cannotOf 20 = .ok (.getfield 13, 3) := by decide +kernel
theorem dX3_cannotOf_23 : decode cX3_cannotOf 23 = .ok (.iload_n 1, 1) := by decide +kernel
theorem dX3_cannotOf_24 : decode cX3_cannotOf 24 = .ok (.iaload, 1) := by decide +kernel
theorem dX3_cannotOf_25 : decode cX3_cannotOf 25 = .ok (.invokevirtual 103, 3) := by decide +kernel
theorem dX3_cannotOf_28 : decode cX3_cannotOf 28 = .ok (.istore 4, 2) := by decide +kernel
theorem dX3_cannotOf_30 : decode cX3_cannotOf 30 = .ok (.iload 4, 2) := by decide +kernel
theorem dX3_cannotOf_32 : decode cX3_cannotOf 32 = .ok (.iload_n 2, 1) := by decide +kernel
theorem dX3_cannotOf_33 : decode cX3_cannotOf 33 = .ok (.if_icmp .le 8, 3) := by decide +kernel
theorem dX3_cannotOf_36 : decode cX3_cannotOf 36 = .ok (.iload 4, 2) := by decide +kernel
theorem dX3_cannotOf_38 : decode cX3_cannotOf 38 = .ok (.goto 4, 3) := by decide +kernel
theorem dX3_cannotOf_41 : decode cX3_cannotOf 41 = .ok (.iload_n 2, 1) := by decide +kernel
theorem dX3_cannotOf_42 : decode cX3_cannotOf 42 = .ok (.istore_n 2, 1) := by decide +kernel
theorem dX3_cannotOf_43 : decode cX3_cannotOf 43 = .ok (.iinc 3 1, 3) := by decide +kernel
theorem dX3_cannotOf_46 : decode cX3_cannotOf 46 = .ok (.goto (-42), 3) := by decide +kernel
theorem dX3_cannotOf_49 : decode cX3_cannotOf 49 = .ok (.iload_n 2, 1) := by decide +kernel
theorem dX3_cannotOf_50 : decode cX3_cannotOf 50 = .ok (.bipush 7, 2) := by decide +kernel
theorem dX3_cannotOf_52 : decode cX3_cannotOf 52 = .ok (.if_icmp .ne 7, 3) := by decide +kernel
theorem dX3_cannotOf_55 : decode cX3_cannotOf 55 = .ok (.iconst (-1), 1) := by decide +kernel
theorem dX3_cannotOf_56 : decode cX3_cannotOf 56 = .ok (.goto 4, 3) := by decide +kernel
theorem dX3_cannotOf_59 : decode cX3_cannotOf 59 = .ok (.iload_n 2, 1) := by decide +kernel
theorem dX3_cannotOf_60 : decode cX3_cannotOf 60 = .ok (.ireturn, 1) := by decide +kernel
set_option maxRecDepth 20000 in
theorem ggX3_leastOf_X3_isSo : GoodIn wsX3_leastOf wsX3_isSo := goodIn_r _ [5, 6, 7, 8, 9, 4, 10, 11, 12, 13, 14, 15, 16, 17, 18, 19, 20, 21, 22, 23, 24, 25, 26, 27, 28, 29, 30, 31, 32, 33, 34, 35, 36, 37, 38, 39, 40, 41, 42, 43, 44, 45, 46, 47, 48, 49, 50, 51, 52, 53, 54, 55, 56, 57, 58, 59] (by decide +kernel) (by decide +kernel)
set_option maxRecDepth 20000 in
theorem gX3_leastOf_X3_isSo : GoodIn wsX3_leastOf (wsV RX3 107 RX3 yX3_isSo wsX3_isSo) := goodIn_app (goodIn_of _ (by decide +kernel)) ggX3_leastOf_X3_isSo
theorem dX3_leastOf_0 : decode cX3_leastOf 0 = .ok (.iconst 0, 1) := by decide +kernel
theorem dX3_leastOf_1 : decode cX3_leastOf 1 = .ok (.istore_n 2, 1) := by decide +kernel
theorem dX3_leastOf_2 : decode cX3_leastOf 2 = .ok (.iload_n 2, 1) := by decide +kernel
theorem dX3_leastOf_3 : decode cX3_leastOf 3 = .ok (.sipush 128, 3) := by decide +kernel
theorem dX3_leastOf_6 : decode cX3_leastOf 6 = .ok (.if_icmp .ge 18, 3) := by decide +kernel
theorem dX3_leastOf_9 : decode cX3_leastOf 9 = .ok (.aload_n 0, 1) := by decide +kernel
theorem dX3_leastOf_10 : decode cX3_leastOf 10 = .ok (.iload_n 1, 1) := by decide +kernel
theorem dX3_leastOf_11 : decode cX3_leastOf 11 = .ok (.iload_n 2, 1) := by decide +kernel
theorem dX3_leastOf_12 : decode cX3_leastOf 12 = .ok (.invokevirtual 107, 3) := by decide +kernel
theorem dX3_leastOf_15 : decode cX3_leastOf 15 = .ok (.ifCond .ne 9, 3) := by decide +kernel
theorem dX3_leastOf_18 : decode cX3_leastOf 18 = .ok (.iinc 2 1, 3) := by decide +kernel
theorem dX3_leastOf_21 : decode cX3_leastOf 21 = .ok (.goto (-19), 3) := by decide +kernel
theorem dX3_leastOf_24 : decode cX3_leastOf 24 = .ok (.iload_n 2, 1) := by decide +kernel
theorem dX3_leastOf_25 : decode cX3_leastOf 25 = .ok (.sipush 128, 3) := by decide +kernel
theorem dX3_leastOf_28 : decode cX3_leastOf 28 = .ok (.if_icmp .ne 7, 3) := by decide +kernel
theorem dX3_leastOf_31 : decode cX3_leastOf 31 = .ok (.iconst (-1), 1) := by decide +kernel
theorem dX3_leastOf_32 : decode cX3_leastOf 32 = .ok (.goto 4, 3) := by decide +kernel
theorem dX3_leastOf_35 : decode cX3_leastOf 35 = .ok (.iload_n 2, 1) := by decide +kernel
theorem dX3_leastOf_36 : decode cX3_leastOf 36 = .ok (.ireturn, 1) := by decide +kernel
theorem dX3_peopleOf_0 : decode cX3_peopleOf 0 = .ok (.iconst 0, 1) := by decide +kernel
theorem dX3_peopleOf_1 : decode cX3_peopleOf 1 = .ok (.istore_n 2, 1) := by decide +kernel
theorem dX3_peopleOf_2 : decode cX3_peopleOf 2 = .ok (.iconst 0, 1) := by decide +kernel
theorem dX3_peopleOf_3 : decode cX3_peopleOf 3 = .ok (.istore_n 3, 1) := by decide +kernel
theorem dX3_peopleOf_4 : decode cX3_peopleOf 4 = .ok (.iload_n 3, 1) := by decide +kernel
theorem dX3_peopleOf_5 : decode cX3_peopleOf 5 = .ok (.aload_n 0, 1) := by decide +kernel
theorem dX3_peopleOf_6 : decode cX3_peopleOf 6 = .ok (.getfield 82, 3) := by decide +kernel
theorem dX3_peopleOf_9 : decode cX3_peopleOf 9 = .ok (.if_icmp .ge 29, 3) := by decide +kernel
theorem dX3_peopleOf_12 : decode cX3_peopleOf 12 = .ok (.iload_n 2, 1) := by decide +kernel
theorem dX3_peopleOf_13 : decode cX3_peopleOf 13 = .ok (.aload_n 0, 1) := by decide +kernel
theorem dX3_peopleOf_14 : decode cX3_peopleOf 14 = .ok (.getfield 19, 3) := by decide +kernel
theorem dX3_peopleOf_17 : decode cX3_peopleOf 17 = .ok (.iload_n 3, 1) := by decide +kernel
theorem dX3_peopleOf_18 : decode cX3_peopleOf 18 = .ok (.iaload, 1) := by decide +kernel
theorem dX3_peopleOf_19 : decode cX3_peopleOf 19 = .ok (.iload_n 1, 1) := by decide +kernel
theorem dX3_peopleOf_20 : decode cX3_peopleOf 20 = .ok (.if_icmp .ne 9, 3) := by decide +kernel
theorem dX3_peopleOf_23 : decode cX3_peopleOf 23 = .ok (.iconst 1, 1) := by decide +kernel
theorem dX3_peopleOf_24 : decode cX3_peopleOf 24 = .ok (.iload_n 3, 1) := by decide +kernel
theorem dX3_peopleOf_25 : decode cX3_peopleOf 25 = .ok (.ishl, 1) := by decide +kernel
theorem dX3_peopleOf_26 : decode cX3_peopleOf 26 = .ok (.goto 4, 3) := by decide +kernel
theorem dX3_peopleOf_29 : decode cX3_peopleOf 29 = .ok (.iconst 0, 1) := by decide +kernel
theorem dX3_peopleOf_30 : decode cX3_peopleOf 30 = .ok (.ior, 1) := by decide +kernel
theorem dX3_peopleOf_31 : decode cX3_peopleOf 31 = .ok (.istore_n 2, 1) := by decide +kernel
theorem dX3_peopleOf_32 : decode cX3_peopleOf 32 = .ok (.iinc 3 1, 3) := by decide +kernel
theorem dX3_peopleOf_35 : decode cX3_peopleOf 35 = .ok (.goto (-31), 3) := by decide +kernel
theorem dX3_peopleOf_38 : decode cX3_peopleOf 38 = .ok (.iload_n 2, 1) := by decide +kernel
theorem dX3_peopleOf_39 : decode cX3_peopleOf 39 = .ok (.ireturn, 1) := by decide +kernel
set_option maxRecDepth 20000 in
theorem ggX3_drawerNow_X3_aheadOf : GoodIn wsX3_drawerNow wsX3_aheadOf := goodIn_r _ [7, 8, 1, 47, 48, 49, 50, 51, 52, 53, 54, 55, 56, 57, 58, 59, 60, 61, 62, 63, 64, 65, 66, 67, 68, 69, 70, 71, 72, 73, 74, 75] (by decide +kernel) (by decide +kernel)
set_option maxRecDepth 20000 in
theorem gX3_drawerNow_X3_aheadOf : GoodIn wsX3_drawerNow (wsV RX3 100 RX3 yX3_aheadOf wsX3_aheadOf) := goodIn_app (goodIn_of _ (by decide +kernel)) ggX3_drawerNow_X3_aheadOf
set_option maxRecDepth 20000 in
theorem ggX3_drawerNow_X3_peopleOf : GoodIn wsX3_drawerNow wsX3_peopleOf := goodIn_r _ [12, 13, 14, 47, 48, 49, 50, 51, 52, 53, 54, 55, 56, 57, 58, 59, 60, 61, 62, 63, 64, 65, 66, 67, 68, 69, 70, 71, 72, 73, 74, 75] (by decide +kernel) (by decide +kernel)
set_option maxRecDepth 20000 in
theorem gX3_drawerNow_X3_peopleOf : GoodIn wsX3_drawerNow (wsV RX3 110 RX3 yX3_peopleOf wsX3_peopleOf) := goodIn_app (goodIn_of _ (by decide +kernel)) ggX3_drawerNow_X3_peopleOf
set_option maxRecDepth 20000 in
theorem ggX3_drawerNow_X3_agreeing : GoodIn wsX3_drawerNow wsX3_agreeing := goodIn_r _ [18, 19, 20, 21, 6, 22, 2, 3, 4, 5, 7, 8, 1, 23, 24, 25, 26, 27, 28, 29, 30, 13, 14, 31, 32, 33, 34, 35, 36, 37, 38, 47, 48, 49, 50, 51, 52, 53, 54, 55, 56, 57, 58, 59, 60, 61, 62, 63, 64, 65, 66, 67, 68, 69, 70, 71, 72, 73, 74, 75] (by decide +kernel) (by decide +kernel)
set_option maxRecDepth 20000 in
theorem gX3_drawerNow_X3_agreeing : GoodIn wsX3_drawerNow (wsV RX3 113 RX3 yX3_agreeing wsX3_agreeing) := goodIn_app (goodIn_of _ (by decide +kernel)) ggX3_drawerNow_X3_agreeing
set_option maxRecDepth 20000 in
theorem ggX3_drawerNow_X3_cannotOf : GoodIn wsX3_drawerNow wsX3_cannotOf := goodIn_r _ [42, 2, 3, 4, 5, 6, 7, 8, 1, 23, 24, 25, 26, 27, 28, 29, 30, 13, 14, 31, 32, 33, 34, 35, 36, 37, 38, 47, 48, 49, 50, 51, 52, 53, 54, 55, 56, 57, 58, 59, 60, 61, 62, 63, 64, 65, 66, 67, 68, 69, 70, 71, 72, 73, 74, 75] (by decide +kernel) (by decide +kernel)
set_option maxRecDepth 20000 in
theorem gX3_drawerNow_X3_cannotOf : GoodIn wsX3_drawerNow (wsV RX3 116 RX3 yX3_cannotOf wsX3_cannotOf) := goodIn_app (goodIn_of _ (by decide +kernel)) ggX3_drawerNow_X3_cannotOf
set_option maxRecDepth 20000 in
theorem ggX3_drawerNow_X3_leastOf : GoodIn wsX3_drawerNow wsX3_leastOf := goodIn_r _ [46, 19, 20, 21, 6, 22, 2, 3, 4, 5, 7, 8, 1, 23, 24, 25, 26, 27, 28, 29, 30, 13, 14, 31, 32, 33, 34, 35, 36, 37, 38, 47, 48, 49, 50, 51, 52, 53, 54, 55, 56, 57, 58, 59, 60, 61, 62, 63, 64, 65, 66, 67, 68, 69, 70, 71, 72, 73, 74, 75] (by decide +kernel) (by decide +kernel)
set_option maxRecDepth 20000 in
theorem gX3_drawerNow_X3_leastOf : GoodIn wsX3_drawerNow (wsV RX3 119 RX3 yX3_leastOf wsX3_leastOf) := goodIn_app (goodIn_of _ (by decide +kernel)) ggX3_drawerNow_X3_leastOf
theorem dX3_drawerNow_0 : decode cX3_drawerNow 0 = .ok (.iload_n 2, 1) := by decide +kernel
theorem dX3_drawerNow_1 : decode cX3_drawerNow 1 = .ok (.tableswitch 83 0 5 #[39, 49, 58, 64, 71, 77], 39) := by decide +kernel
theorem dX3_drawerNow_40 : decode cX3_drawerNow 40 = .ok (.aload_n 0, 1) := by decide +kernel
theorem dX3_drawerNow_41 : decode cX3_drawerNow 41 = .ok (.getfield 7, 3) := by decide +kernel
theorem dX3_drawerNow_44 : decode cX3_drawerNow 44 = .ok (.iload_n 1, 1) := by decide +kernel
theorem dX3_drawerNow_45 : decode cX3_drawerNow 45 = .ok (.iaload, 1) := by decide +kernel
theorem dX3_drawerNow_46 : decode cX3_drawerNow 46 = .ok (.bipush 10, 2) := by decide +kernel
theorem dX3_drawerNow_48 : decode cX3_drawerNow 48 = .ok (.iadd, 1) := by decide +kernel
theorem dX3_drawerNow_49 : decode cX3_drawerNow 49 = .ok (.ireturn, 1) := by decide +kernel
theorem dX3_drawerNow_50 : decode cX3_drawerNow 50 = .ok (.aload_n 0, 1) := by decide +kernel
theorem dX3_drawerNow_51 : decode cX3_drawerNow 51 = .ok (.iload_n 1, 1) := by decide +kernel
theorem dX3_drawerNow_52 : decode cX3_drawerNow 52 = .ok (.invokevirtual 100, 3) := by decide +kernel
theorem dX3_drawerNow_55 : decode cX3_drawerNow 55 = .ok (.bipush 10, 2) := by decide +kernel
theorem dX3_drawerNow_57 : decode cX3_drawerNow 57 = .ok (.iadd, 1) := by decide +kernel
theorem dX3_drawerNow_58 : decode cX3_drawerNow 58 = .ok (.ireturn, 1) := by decide +kernel
theorem dX3_drawerNow_59 : decode cX3_drawerNow 59 = .ok (.aload_n 0, 1) := by decide +kernel
theorem dX3_drawerNow_60 : decode cX3_drawerNow 60 = .ok (.iload_n 1, 1) := by decide +kernel
theorem dX3_drawerNow_61 : decode cX3_drawerNow 61 = .ok (.invokevirtual 110, 3) := by decide +kernel
theorem dX3_drawerNow_64 : decode cX3_drawerNow 64 = .ok (.ireturn, 1) := by decide +kernel
theorem dX3_drawerNow_65 : decode cX3_drawerNow 65 = .ok (.aload_n 0, 1) := by decide +kernel
theorem dX3_drawerNow_66 : decode cX3_drawerNow 66 = .ok (.getfield 13, 3) := by decide +kernel
theorem dX3_drawerNow_69 : decode cX3_drawerNow 69 = .ok (.iload_n 1, 1) := by decide +kernel
theorem dX3_drawerNow_70 : decode cX3_drawerNow 70 = .ok (.iaload, 1) := by decide +kernel
theorem dX3_drawerNow_71 : decode cX3_drawerNow 71 = .ok (.ireturn, 1) := by decide +kernel
theorem dX3_drawerNow_72 : decode cX3_drawerNow 72 = .ok (.aload_n 0, 1) := by decide +kernel
theorem dX3_drawerNow_73 : decode cX3_drawerNow 73 = .ok (.iload_n 1, 1) := by decide +kernel
theorem dX3_drawerNow_74 : decode cX3_drawerNow 74 = .ok (.invokevirtual 113, 3) := by decide +kernel
theorem dX3_drawerNow_77 : decode cX3_drawerNow 77 = .ok (.ireturn, 1) := by decide +kernel
theorem dX3_drawerNow_78 : decode cX3_drawerNow 78 = .ok (.aload_n 0, 1) := by decide +kernel
theorem dX3_drawerNow_79 : decode cX3_drawerNow 79 = .ok (.iload_n 1, 1) := by decide +kernel
theorem dX3_drawerNow_80 : decode cX3_drawerNow 80 = .ok (.invokevirtual 116, 3) := by decide +kernel
theorem dX3_drawerNow_83 : decode cX3_drawerNow 83 = .ok (.ireturn, 1) := by decide +kernel
theorem dX3_drawerNow_84 : decode cX3_drawerNow 84 = .ok (.aload_n 0, 1) := by decide +kernel
theorem dX3_drawerNow_85 : decode cX3_drawerNow 85 = .ok (.iload_n 1, 1) := by decide +kernel
theorem dX3_drawerNow_86 : decode cX3_drawerNow 86 = .ok (.invokevirtual 119, 3) := by decide +kernel
theorem dX3_drawerNow_89 : decode cX3_drawerNow 89 = .ok (.ireturn, 1) := by decide +kernel
set_option maxRecDepth 20000 in
theorem ggX3_drawer_X3_isDrawer : GoodIn wsX3_drawer wsX3_isDrawer := goodIn_r _ [5, 6, 7, 8, 4, 9, 59, 60, 61, 62, 63, 64, 65, 66, 67, 68, 69, 70, 71, 72, 73, 74, 75, 76, 77, 78, 79, 80, 81, 82, 83, 84, 85, 86, 87] (by decide +kernel) (by decide +kernel)
set_option maxRecDepth 20000 in
theorem gX3_drawer_X3_isDrawer : GoodIn wsX3_drawer (wsV RX3 122 RX3 yX3_isDrawer wsX3_isDrawer) := goodIn_app (goodIn_of _ (by decide +kernel)) ggX3_drawer_X3_isDrawer
set_option maxRecDepth 20000 in
theorem ggX3_drawer_X3_within : GoodIn wsX3_drawer wsX3_within := goodIn_r _ [9] (by decide +kernel) (by decide +kernel)
set_option maxRecDepth 20000 in
theorem gX3_drawer_X3_within : GoodIn wsX3_drawer (va_wsS RX3 56 yX3_within wsX3_within) := goodIn_app (goodIn_of _ (by decide +kernel)) ggX3_drawer_X3_within
set_option maxRecDepth 20000 in
theorem ggX3_drawer_X3_drawerNow : GoodIn wsX3_drawer wsX3_drawerNow := goodIn_r _ [13, 14, 15, 16, 17, 18, 4, 19, 20, 21, 22, 23, 24, 25, 26, 27, 28, 29, 30, 31, 32, 33, 34, 35, 36, 37, 38, 39, 40, 41, 42, 43, 44, 45, 46, 47, 48, 49, 50, 51, 52, 53, 54, 55, 56, 57, 58, 59, 60, 61, 62, 63, 64, 65, 66, 67, 68, 69, 70, 71, 72, 73, 74, 75, 76, 77, 78, 79, 80, 81, 82, 83, 84, 85, 86, 87] (by decide +kernel) (by decide +kernel)
set_option maxRecDepth 20000 in
theorem gX3_drawer_X3_drawerNow : GoodIn wsX3_drawer (wsV RX3 126 RX3 yX3_drawerNow wsX3_drawerNow) := goodIn_app (goodIn_of _ (by decide +kernel)) ggX3_drawer_X3_drawerNow
theorem dX3_drawer_0 : decode cX3_drawer 0 = .ok (.aload_n 0, 1) := by decide +kernel
theorem dX3_drawer_1 : decode cX3_drawer 1 = .ok (.iload_n 1, 1) := by decide +kernel
theorem dX3_drawer_2 : decode cX3_drawer 2 = .ok (.invokevirtual 122, 3) := by decide +kernel
theorem dX3_drawer_5 : decode cX3_drawer 5 = .ok (.ifCond .ne 8, 3) := by decide +kernel
theorem dX3_drawer_8 : decode cX3_drawer 8 = .ok (.bipush (-101), 2) := by decide +kernel
theorem dX3_drawer_10 : decode cX3_drawer 10 = .ok (.goto 24, 3) := by decide +kernel
theorem dX3_drawer_13 : decode cX3_drawer 13 = .ok (.iload_n 2, 1) := by decide +kernel
theorem dX3_drawer_14 : decode cX3_drawer 14 = .ok (.iconst 0, 1) := by decide +kernel
theorem dX3_drawer_15 : decode cX3_drawer 15 = .ok (.bipush 6, 2) := by decide +kernel
theorem dX3_drawer_17 : decode cX3_drawer 17 = .ok (.invokestatic 56, 3) := by decide +kernel
theorem dX3_drawer_20 : decode cX3_drawer 20 = .ok (.ifCond .eq 12, 3) := by decide +kernel
theorem dX3_drawer_23 : decode cX3_drawer 23 = .ok (.aload_n 0, 1) := by decide +kernel
theorem dX3_drawer_24 : decode cX3_drawer 24 = .ok (.iload_n 1, 1) := by decide +kernel
theorem dX3_drawer_25 : decode cX3_drawer 25 = .ok (.iload_n 2, 1) := by decide +kernel
theorem dX3_drawer_26 : decode cX3_drawer 26 = .ok (.invokevirtual 126, 3) := by decide +kernel
theorem dX3_drawer_29 : decode cX3_drawer 29 = .ok (.goto 5, 3) := by decide +kernel
theorem dX3_drawer_32 : decode cX3_drawer 32 = .ok (.bipush (-102), 2) := by decide +kernel
theorem dX3_drawer_34 : decode cX3_drawer 34 = .ok (.ireturn, 1) := by decide +kernel
set_option maxRecDepth 20000 in
theorem ggX3_isPerson_X3_within : GoodIn wsX3_isPerson wsX3_within := goodIn_r _ [5] (by decide +kernel) (by decide +kernel)
set_option maxRecDepth 20000 in
theorem gX3_isPerson_X3_within : GoodIn wsX3_isPerson (va_wsS RX3 56 yX3_within wsX3_within) := goodIn_app (goodIn_of _ (by decide +kernel)) ggX3_isPerson_X3_within
theorem dX3_isPerson_0 : decode cX3_isPerson 0 = .ok (.iload_n 1, 1) := by decide +kernel
theorem dX3_isPerson_1 : decode cX3_isPerson 1 = .ok (.iconst 0, 1) := by decide +kernel
theorem dX3_isPerson_2 : decode cX3_isPerson 2 = .ok (.aload_n 0, 1) := by decide +kernel
theorem dX3_isPerson_3 : decode cX3_isPerson 3 = .ok (.getfield 82, 3) := by decide +kernel
theorem dX3_isPerson_6 : decode cX3_isPerson 6 = .ok (.iconst 1, 1) := by decide +kernel
theorem dX3_isPerson_7 : decode cX3_isPerson 7 = .ok (.isub, 1) := by decide +kernel
theorem dX3_isPerson_8 : decode cX3_isPerson 8 = .ok (.invokestatic 56, 3) := by decide +kernel
theorem dX3_isPerson_11 : decode cX3_isPerson 11 = .ok (.ireturn, 1) := by decide +kernel
set_option maxRecDepth 20000 in
theorem ggX3_person_X3_within : GoodIn wsX3_person wsX3_within := goodIn_r _ [8] (by decide +kernel) (by decide +kernel)
set_option maxRecDepth 20000 in
theorem gX3_person_X3_within : GoodIn wsX3_person (va_wsS RX3 56 yX3_within wsX3_within) := goodIn_app (goodIn_of _ (by decide +kernel)) ggX3_person_X3_within
set_option maxRecDepth 20000 in
theorem ggX3_person_X3_isDrawer : GoodIn wsX3_person wsX3_isDrawer := goodIn_r _ [12, 13, 5, 6, 7, 8, 17, 18, 19, 20, 21, 22, 23, 24, 25, 26, 27, 28, 29, 30, 31, 32, 33, 34, 35, 36, 37, 38, 39, 40, 41, 42, 43, 44, 45] (by decide +kernel) (by decide +kernel)
set_option maxRecDepth 20000 in
theorem gX3_person_X3_isDrawer : GoodIn wsX3_person (wsV RX3 122 RX3 yX3_isDrawer wsX3_isDrawer) := goodIn_app (goodIn_of _ (by decide +kernel)) ggX3_person_X3_isDrawer
set_option maxRecDepth 20000 in
theorem ggX3_person_X3_isDay : GoodIn wsX3_person wsX3_isDay := goodIn_r _ [16, 5, 6, 7, 8] (by decide +kernel) (by decide +kernel)
set_option maxRecDepth 20000 in
theorem gX3_person_X3_isDay : GoodIn wsX3_person (va_wsS RX3 129 yX3_isDay wsX3_isDay) := goodIn_app (goodIn_of _ (by decide +kernel)) ggX3_person_X3_isDay
theorem dX3_person_0 : decode cX3_person 0 = .ok (.iload_n 1, 1) := by decide +kernel
theorem dX3_person_1 : decode cX3_person 1 = .ok (.iconst 0, 1) := by decide +kernel
theorem dX3_person_2 : decode cX3_person 2 = .ok (.iconst 4, 1) := by decide +kernel
theorem dX3_person_3 : decode cX3_person 3 = .ok (.invokestatic 56, 3) := by decide +kernel
theorem dX3_person_6 : decode cX3_person 6 = .ok (.ifCond .ne 6, 3) := by decide +kernel
theorem dX3_person_9 : decode cX3_person 9 = .ok (.bipush (-102), 2) := by decide +kernel
theorem dX3_person_11 : decode cX3_person 11 = .ok (.ireturn, 1) := by decide +kernel
theorem dX3_person_12 : decode cX3_person 12 = .ok (.aload_n 0, 1) := by decide +kernel
theorem dX3_person_13 : decode cX3_person 13 = .ok (.iload_n 2, 1) := by decide +kernel
theorem dX3_person_14 : decode cX3_person 14 = .ok (.invokevirtual 122, 3) := by decide +kernel
theorem dX3_person_17 : decode cX3_person 17 = .ok (.ifCond .eq 10, 3) := by decide +kernel
theorem dX3_person_20 : decode cX3_person 20 = .ok (.iload_n 3, 1) := by decide +kernel
theorem dX3_person_21 : decode cX3_person 21 = .ok (.invokestatic 129, 3) := by decide +kernel
theorem dX3_person_24 : decode cX3_person 24 = .ok (.ifCond .ne 6, 3) := by decide +kernel
theorem dX3_person_27 : decode cX3_person 27 = .ok (.bipush (-101), 2) := by decide +kernel
theorem dX3_person_29 : decode cX3_person 29 = .ok (.ireturn, 1) := by decide +kernel
theorem dX3_person_30 : decode cX3_person 30 = .ok (.aload_n 0, 1) := by decide +kernel
theorem dX3_person_31 : decode cX3_person 31 = .ok (.getfield 82, 3) := by decide +kernel
theorem dX3_person_34 : decode cX3_person 34 = .ok (.bipush 6, 2) := by decide +kernel
theorem dX3_person_36 : decode cX3_person 36 = .ok (.if_icmp .ne 6, 3) := by decide +kernel
theorem dX3_person_39 : decode cX3_person 39 = .ok (.bipush (-104), 2) := by decide +kernel
theorem dX3_person_41 : decode cX3_person 41 = .ok (.ireturn, 1) := by decide +kernel
theorem dX3_person_42 : decode cX3_person 42 = .ok (.aload_n 0, 1) := by decide +kernel
theorem dX3_person_43 : decode cX3_person 43 = .ok (.getfield 16, 3) := by decide +kernel
theorem dX3_person_46 : decode cX3_person 46 = .ok (.aload_n 0, 1) := by decide +kernel
theorem dX3_person_47 : decode cX3_person 47 = .ok (.getfield 82, 3) := by decide +kernel
theorem dX3_person_50 : decode cX3_person 50 = .ok (.iload_n 1, 1) := by decide +kernel
theorem dX3_person_51 : decode cX3_person 51 = .ok (.iastore, 1) := by decide +kernel
theorem dX3_person_52 : decode cX3_person 52 = .ok (.aload_n 0, 1) := by decide +kernel
theorem dX3_person_53 : decode cX3_person 53 = .ok (.getfield 19, 3) := by decide +kernel
theorem dX3_person_56 : decode cX3_person 56 = .ok (.aload_n 0, 1) := by decide +kernel
theorem dX3_person_57 : decode cX3_person 57 = .ok (.getfield 82, 3) := by decide +kernel
theorem dX3_person_60 : decode cX3_person 60 = .ok (.iload_n 2, 1) := by decide +kernel
theorem dX3_person_61 : decode cX3_person 61 = .ok (.iastore, 1) := by decide +kernel
theorem dX3_person_62 : decode cX3_person 62 = .ok (.aload_n 0, 1) := by decide +kernel
theorem dX3_person_63 : decode cX3_person 63 = .ok (.getfield 22, 3) := by decide +kernel
theorem dX3_person_66 : decode cX3_person 66 = .ok (.aload_n 0, 1) := by decide +kernel
theorem dX3_person_67 : decode cX3_person 67 = .ok (.getfield 82, 3) := by decide +kernel
theorem dX3_person_70 : decode cX3_person 70 = .ok (.iload_n 3, 1) := by decide +kernel
theorem dX3_person_71 : decode cX3_person 71 = .ok (.iastore, 1) := by decide +kernel
theorem dX3_person_72 : decode cX3_person 72 = .ok (.aload_n 0, 1) := by decide +kernel
theorem dX3_person_73 : decode cX3_person 73 = .ok (.dup, 1) := by decide +kernel
theorem dX3_person_74 : decode cX3_person 74 = .ok (.getfield 82, 3) := by decide +kernel
theorem dX3_person_77 : decode cX3_person 77 = .ok (.iconst 1, 1) := by decide +kernel
theorem dX3_person_78 : decode cX3_person 78 = .ok (.iadd, 1) := by decide +kernel
theorem dX3_person_79 : decode cX3_person 79 = .ok (.putfield 82, 3) := by decide +kernel
theorem dX3_person_82 : decode cX3_person 82 = .ok (.aload_n 0, 1) := by decide +kernel
theorem dX3_person_83 : decode cX3_person 83 = .ok (.getfield 82, 3) := by decide +kernel
theorem dX3_person_86 : decode cX3_person 86 = .ok (.iconst 1, 1) := by decide +kernel
theorem dX3_person_87 : decode cX3_person 87 = .ok (.isub, 1) := by decide +kernel
theorem dX3_person_88 : decode cX3_person 88 = .ok (.ireturn, 1) := by decide +kernel
set_option maxRecDepth 20000 in
theorem ggX3_personNow_X3_puts : GoodIn wsX3_personNow wsX3_puts := goodIn_r _ [7] (by decide +kernel) (by decide +kernel)
set_option maxRecDepth 20000 in
theorem gX3_personNow_X3_puts : GoodIn wsX3_personNow (va_wsS RX3 92 yX3_puts wsX3_puts) := goodIn_app (goodIn_of _ (by decide +kernel)) ggX3_personNow_X3_puts
theorem dX3_personNow_0 : decode cX3_personNow 0 = .ok (.iload_n 2, 1) := by decide +kernel
theorem dX3_personNow_1 : decode cX3_personNow 1 = .ok (.iconst 2, 1) := by decide +kernel
theorem dX3_personNow_2 : decode cX3_personNow 2 = .ok (.if_icmp .le 42, 3) := by decide +kernel
theorem dX3_personNow_5 : decode cX3_personNow 5 = .ok (.aload_n 0, 1) := by decide +kernel
theorem dX3_personNow_6 : decode cX3_personNow 6 = .ok (.getfield 16, 3) := by decide +kernel
theorem dX3_personNow_9 : decode cX3_personNow 9 = .ok (.iload_n 1, 1) := by decide +kernel
theorem dX3_personNow_10 : decode cX3_personNow 10 = .ok (.iaload, 1) := by decide +kernel
theorem dX3_personNow_11 : decode cX3_personNow 11 = .ok (.aload_n 0, 1) := by decide +kernel
theorem dX3_personNow_12 : decode cX3_personNow 12 = .ok (.getfield 22, 3) := by decide +kernel
theorem dX3_personNow_15 : decode cX3_personNow 15 = .ok (.iload_n 1, 1) := by decide +kernel
theorem dX3_personNow_16 : decode cX3_personNow 16 = .ok (.iaload, 1) := by decide +kernel
theorem dX3_personNow_17 : decode cX3_personNow 17 = .ok (.iload_n 2, 1) := by decide +kernel
theorem dX3_personNow_18 : decode cX3_personNow 18 = .ok (.bipush 10, 2) := by decide +kernel
theorem dX3_personNow_20 : decode cX3_personNow 20 = .ok (.irem, 1) := by decide +kernel
theorem dX3_personNow_21 : decode cX3_personNow 21 = .ok (.iload_n 2, 1) := by decide +kernel
theorem dX3_personNow_22 : decode cX3_personNow 22 = .ok (.bipush 20, 2) := by decide +kernel
theorem dX3_personNow_24 : decode cX3_personNow 24 = .ok (.if_icmp .lt 7, 3) := by decide +kernel
theorem dX3_personNow_27 : decode cX3_personNow 27 = .ok (.iconst 1, 1) := by decide +kernel
theorem dX3_personNow_28 : decode cX3_personNow 28 = .ok (.goto 4, 3) := by decide +kernel
theorem dX3_personNow_31 : decode cX3_personNow 31 = .ok (.iconst 0, 1) := by decide +kernel
theorem dX3_personNow_32 : decode cX3_personNow 32 = .ok (.invokestatic 92, 3) := by decide +kernel
theorem dX3_personNow_35 : decode cX3_personNow 35 = .ok (.ifCond .eq 7, 3) := by decide +kernel
theorem dX3_personNow_38 : decode cX3_personNow 38 = .ok (.iconst 1, 1) := by decide +kernel
theorem dX3_personNow_39 : decode cX3_personNow 39 = .ok (.goto 4, 3) := by decide +kernel
theorem dX3_personNow_42 : decode cX3_personNow 42 = .ok (.iconst 0, 1) := by decide +kernel
theorem dX3_personNow_43 : decode cX3_personNow 43 = .ok (.ireturn, 1) := by decide +kernel
theorem dX3_personNow_44 : decode cX3_personNow 44 = .ok (.iload_n 2, 1) := by decide +kernel
theorem dX3_personNow_45 : decode cX3_personNow 45 = .ok (.ifCond .ne 12, 3) := by decide +kernel
theorem dX3_personNow_48 : decode cX3_personNow 48 = .ok (.aload_n 0, 1) := by decide +kernel
theorem dX3_personNow_49 : decode cX3_personNow 49 = .ok (.getfield 16, 3) := by decide +kernel
theorem dX3_personNow_52 : decode cX3_personNow 52 = .ok (.iload_n 1, 1) := by decide +kernel
theorem dX3_personNow_53 : decode cX3_personNow 53 = .ok (.iaload, 1) := by decide +kernel
theorem dX3_personNow_54 : decode cX3_personNow 54 = .ok (.goto 23, 3) := by decide +kernel
theorem dX3_personNow_57 : decode cX3_personNow 57 = .ok (.iload_n 2, 1) := by decide +kernel
theorem dX3_personNow_58 : decode cX3_personNow 58 = .ok (.iconst 1, 1) := by decide +kernel
theorem dX3_personNow_59 : decode cX3_personNow 59 = .ok (.if_icmp .ne 12, 3) := by decide +kernel
theorem dX3_personNow_62 : decode cX3_personNow 62 = .ok (.aload_n 0, 1) := by decide +kernel
theorem dX3_personNow_63 : decode cX3_personNow 63 = .ok (.getfield 19, 3) := by decide +kernel
theorem dX3_personNow_66 : decode cX3_personNow 66 = .ok (.iload_n 1, 1) := by decide +kernel
theorem dX3_personNow_67 : decode cX3_personNow 67 = .ok (.iaload, 1) := by decide +kernel
theorem dX3_personNow_68 : decode cX3_personNow 68 = .ok (.goto 9, 3) := by decide +kernel
theorem dX3_personNow_71 : decode cX3_personNow 71 = .ok (.aload_n 0, 1) := by decide +kernel
theorem dX3_personNow_72 : decode cX3_personNow 72 = .ok (.getfield 22, 3) := by decide +kernel
theorem dX3_personNow_75 : decode cX3_personNow 75 = .ok (.iload_n 1, 1) := by decide +kernel
theorem dX3_personNow_76 : decode cX3_personNow 76 = .ok (.iaload, 1) := by decide +kernel
theorem dX3_personNow_77 : decode cX3_personNow 77 = .ok (.ireturn, 1) := by decide +kernel
set_option maxRecDepth 20000 in
theorem ggX3_about_X3_within : GoodIn wsX3_about wsX3_within := goodIn_r _ [4] (by decide +kernel) (by decide +kernel)
set_option maxRecDepth 20000 in
theorem gX3_about_X3_within : GoodIn wsX3_about (va_wsS RX3 56 yX3_within wsX3_within) := goodIn_app (goodIn_of _ (by decide +kernel)) ggX3_about_X3_within
set_option maxRecDepth 20000 in
theorem ggX3_about_X3_isPerson : GoodIn wsX3_about wsX3_isPerson := goodIn_r _ [8, 9, 1, 2, 3, 4, 20, 21, 22, 23, 24, 25, 26, 27, 28, 29, 30, 31, 32, 33, 34, 35, 36, 37, 38, 39, 40, 41, 42, 43, 44, 45, 46, 47, 48] (by decide +kernel) (by decide +kernel)
set_option maxRecDepth 20000 in
theorem gX3_about_X3_isPerson : GoodIn wsX3_about (wsV RX3 132 RX3 yX3_isPerson wsX3_isPerson) := goodIn_app (goodIn_of _ (by decide +kernel)) ggX3_about_X3_isPerson
set_option maxRecDepth 20000 in
theorem ggX3_about_X3_personNow : GoodIn wsX3_about wsX3_personNow := goodIn_r _ [13, 14, 15, 16, 17, 18, 3, 19, 20, 21, 22, 23, 24, 25, 26, 27, 28, 29, 30, 31, 32, 33, 34, 35, 36, 37, 38, 39, 40, 41, 42, 43, 44, 45, 46, 47, 48] (by decide +kernel) (by decide +kernel)
set_option maxRecDepth 20000 in
theorem gX3_about_X3_personNow : GoodIn wsX3_about (wsV RX3 135 RX3 yX3_personNow wsX3_personNow) := goodIn_app (goodIn_of _ (by decide +kernel)) ggX3_about_X3_personNow
theorem dX3_about_0 : decode cX3_about 0 = .ok (.iload_n 2, 1) := by decide +kernel
theorem dX3_about_1 : decode cX3_about 1 = .ok (.iconst 0, 1) := by decide +kernel
theorem dX3_about_2 : decode cX3_about 2 = .ok (.iconst 2, 1) := by decide +kernel
theorem dX3_about_3 : decode cX3_about 3 = .ok (.invokestatic 56, 3) := by decide +kernel
theorem dX3_about_6 : decode cX3_about 6 = .ok (.ifCond .ne 25, 3) := by decide +kernel
theorem dX3_about_9 : decode cX3_about 9 = .ok (.iload_n 2, 1) := by decide +kernel
theorem dX3_about_10 : decode cX3_about 10 = .ok (.bipush 10, 2) := by decide +kernel
theorem dX3_about_12 : decode cX3_about 12 = .ok (.bipush 16, 2) := by decide +kernel
theorem dX3_about_14 : decode cX3_about 14 = .ok (.invokestatic 56, 3) := by decide +kernel
theorem dX3_about_17 : decode cX3_about 17 = .ok (.ifCond .ne 14, 3) := by decide +kernel
theorem dX3_about_20 : decode cX3_about 20 = .ok (.iload_n 2, 1) := by decide +kernel
theorem dX3_about_21 : decode cX3_about 21 = .ok (.bipush 20, 2) := by decide +kernel
theorem dX3_about_23 : decode cX3_about 23 = .ok (.bipush 26, 2) := by decide +kernel
theorem dX3_about_25 : decode cX3_about 25 = .ok (.invokestatic 56, 3) := by decide +kernel
theorem dX3_about_28 : decode cX3_about 28 = .ok (.ifCond .eq 7, 3) := by decide +kernel
theorem dX3_about_31 : decode cX3_about 31 = .ok (.iconst 1, 1) := by decide +kernel
theorem dX3_about_32 : decode cX3_about 32 = .ok (.goto 4, 3) := by decide +kernel
theorem dX3_about_35 : decode cX3_about 35 = .ok (.iconst 0, 1) := by decide +kernel
theorem dX3_about_36 : decode cX3_about 36 = .ok (.istore_n 3, 1) := by decide +kernel
theorem dX3_about_37 : decode cX3_about 37 = .ok (.aload_n 0, 1) := by decide +kernel
theorem dX3_about_38 : decode cX3_about 38 = .ok (.iload_n 1, 1) := by decide +kernel
theorem dX3_about_39 : decode cX3_about 39 = .ok (.invokevirtual 132, 3) := by decide +kernel
theorem dX3_about_42 : decode cX3_about 42 = .ok (.ifCond .ne 8, 3) := by decide +kernel
theorem dX3_about_45 : decode cX3_about 45 = .ok (.bipush (-101), 2) := by decide +kernel
theorem dX3_about_47 : decode cX3_about 47 = .ok (.goto 18, 3) := by decide +kernel
theorem dX3_about_50 : decode cX3_about 50 = .ok (.iload_n 3, 1) := by decide +kernel
theorem dX3_about_51 : decode cX3_about 51 = .ok (.ifCond .eq 12, 3) := by decide +kernel
theorem dX3_about_54 : decode cX3_about 54 = .ok (.aload_n 0, 1) := by decide +kernel
theorem dX3_about_55 : decode cX3_about 55 = .ok (.iload_n 1, 1) := by decide +kernel
theorem dX3_about_56 : decode cX3_about 56 = .ok (.iload_n 2, 1) := by decide +kernel
theorem dX3_about_57 : decode cX3_about 57 = .ok (.invokevirtual 135, 3) := by decide +kernel
theorem dX3_about_60 : decode cX3_about 60 = .ok (.goto 5, 3) := by decide +kernel
theorem dX3_about_63 : decode cX3_about 63 = .ok (.bipush (-102), 2) := by decide +kernel
theorem dX3_about_65 : decode cX3_about 65 = .ok (.ireturn, 1) := by decide +kernel
set_option maxRecDepth 20000 in
theorem ggX3_as_X3_isPerson : GoodIn wsX3_as wsX3_isPerson := goodIn_r _ [6, 7, 8, 9, 5, 10, 11, 12, 13, 14, 15, 16, 17, 18, 19, 20, 21, 22, 23, 24, 25, 26, 27, 28, 29, 30, 31, 32, 33, 34, 35, 36, 37, 38, 39] (by decide +kernel) (by decide +kernel)
set_option maxRecDepth 20000 in
theorem gX3_as_X3_isPerson : GoodIn wsX3_as (wsV RX3 132 RX3 yX3_isPerson wsX3_isPerson) := goodIn_app (goodIn_of _ (by decide +kernel)) ggX3_as_X3_isPerson
set_option maxRecDepth 20000 in
theorem ggX3_as_X3_within : GoodIn wsX3_as wsX3_within := goodIn_r _ [10] (by decide +kernel) (by decide +kernel)
set_option maxRecDepth 20000 in
theorem gX3_as_X3_within : GoodIn wsX3_as (va_wsS RX3 56 yX3_within wsX3_within) := goodIn_app (goodIn_of _ (by decide +kernel)) ggX3_as_X3_within
theorem dX3_as_0 : decode cX3_as 0 = .ok (.aload_n 0, 1) := by decide +kernel
theorem dX3_as_1 : decode cX3_as 1 = .ok (.iload_n 1, 1) := by decide +kernel
theorem dX3_as_2 : decode cX3_as 2 = .ok (.invokevirtual 132, 3) := by decide +kernel
theorem dX3_as_5 : decode cX3_as 5 = .ok (.ifCond .ne 6, 3) := by decide +kernel
theorem dX3_as_8 : decode cX3_as 8 = .ok (.bipush (-101), 2) := by decide +kernel
theorem dX3_as_10 : decode cX3_as 10 = .ok (.ireturn, 1) := by decide +kernel
theorem dX3_as_11 : decode cX3_as 11 = .ok (.iload_n 2, 1) := by decide +kernel
theorem dX3_as_12 : decode cX3_as 12 = .ok (.iconst 0, 1) := by decide +kernel
theorem dX3_as_13 : decode cX3_as 13 = .ok (.iconst 4, 1) := by decide +kernel
theorem dX3_as_14 : decode cX3_as 14 = .ok (.invokestatic 56, 3) := by decide +kernel
theorem dX3_as_17 : decode cX3_as 17 = .ok (.ifCond .ne 6, 3) := by decide +kernel
theorem dX3_as_20 : decode cX3_as 20 = .ok (.bipush (-102), 2) := by decide +kernel
theorem dX3_as_22 : decode cX3_as 22 = .ok (.ireturn, 1) := by decide +kernel
theorem dX3_as_23 : decode cX3_as 23 = .ok (.aload_n 0, 1) := by decide +kernel
theorem dX3_as_24 : decode cX3_as 24 = .ok (.getfield 16, 3) := by decide +kernel
theorem dX3_as_27 : decode cX3_as 27 = .ok (.iload_n 1, 1) := by decide +kernel
theorem dX3_as_28 : decode cX3_as 28 = .ok (.iaload, 1) := by decide +kernel
theorem dX3_as_29 : decode cX3_as 29 = .ok (.istore_n 3, 1) := by decide +kernel
theorem dX3_as_30 : decode cX3_as 30 = .ok (.iload_n 2, 1) := by decide +kernel
theorem dX3_as_31 : decode cX3_as 31 = .ok (.ifCond .eq 18, 3) := by decide +kernel
theorem dX3_as_34 : decode cX3_as 34 = .ok (.iload_n 3, 1) := by decide +kernel
theorem dX3_as_35 : decode cX3_as 35 = .ok (.iload_n 2, 1) := by decide +kernel
theorem dX3_as_36 : decode cX3_as 36 = .ok (.if_icmp .eq 13, 3) := by decide +kernel
theorem dX3_as_39 : decode cX3_as 39 = .ok (.iload_n 2, 1) := by decide +kernel
theorem dX3_as_40 : decode cX3_as 40 = .ok (.iconst 2, 1) := by decide +kernel
theorem dX3_as_41 : decode cX3_as 41 = .ok (.if_icmp .ne 12, 3) := by decide +kernel
theorem dX3_as_44 : decode cX3_as 44 = .ok (.iload_n 3, 1) := by decide +kernel
theorem dX3_as_45 : decode cX3_as 45 = .ok (.iconst 4, 1) := by decide +kernel
theorem dX3_as_46 : decode cX3_as 46 = .ok (.if_icmp .ne 7, 3) := by decide +kernel
theorem dX3_as_49 : decode cX3_as 49 = .ok (.iload_n 1, 1) := by decide +kernel
theorem dX3_as_50 : decode cX3_as 50 = .ok (.goto 4, 3) := by decide +kernel
theorem dX3_as_53 : decode cX3_as 53 = .ok (.iconst (-1), 1) := by decide +kernel
theorem dX3_as_54 : decode cX3_as 54 = .ok (.ireturn, 1) := by decide +kernel
set_option maxRecDepth 20000 in
theorem ggX3_move_X3_isPerson : GoodIn wsX3_move wsX3_isPerson := goodIn_r _ [6, 7, 8, 9, 5, 10, 16, 17, 18, 19, 20, 21, 22, 23, 24, 25, 26, 27, 28, 29, 30, 31, 32, 33, 34, 35, 36, 37, 38, 39, 40, 41, 42, 43, 44] (by decide +kernel) (by decide +kernel)
set_option maxRecDepth 20000 in
theorem gX3_move_X3_isPerson : GoodIn wsX3_move (wsV RX3 132 RX3 yX3_isPerson wsX3_isPerson) := goodIn_app (goodIn_of _ (by decide +kernel)) ggX3_move_X3_isPerson
set_option maxRecDepth 20000 in
theorem ggX3_move_X3_isDrawer : GoodIn wsX3_move wsX3_isDrawer := goodIn_r _ [14, 15, 8, 9, 5, 10, 16, 17, 18, 19, 20, 21, 22, 23, 24, 25, 26, 27, 28, 29, 30, 31, 32, 33, 34, 35, 36, 37, 38, 39, 40, 41, 42, 43, 44] (by decide +kernel) (by decide +kernel)
set_option maxRecDepth 20000 in
theorem gX3_move_X3_isDrawer : GoodIn wsX3_move (wsV RX3 122 RX3 yX3_isDrawer wsX3_isDrawer) := goodIn_app (goodIn_of _ (by decide +kernel)) ggX3_move_X3_isDrawer
theorem dX3_move_0 : decode cX3_move 0 = .ok (.aload_n 0, 1) := by decide +kernel
theorem dX3_move_1 : decode cX3_move 1 = .ok (.iload_n 1, 1) := by decide +kernel
theorem dX3_move_2 : decode cX3_move 2 = .ok (.invokevirtual 132, 3) := by decide +kernel
theorem dX3_move_5 : decode cX3_move 5 = .ok (.ifCond .eq 11, 3) := by decide +kernel
theorem dX3_move_8 : decode cX3_move 8 = .ok (.aload_n 0, 1) := by decide +kernel
theorem dX3_move_9 : decode cX3_move 9 = .ok (.iload_n 2, 1) := by decide +kernel
theorem dX3_move_10 : decode cX3_move 10 = .ok (.invokevirtual 122, 3) := by decide +kernel
theorem dX3_move_13 : decode cX3_move 13 = .ok (.ifCond .ne 6, 3) := by decide +kernel
theorem dX3_move_16 : decode cX3_move 16 = .ok (.bipush (-101), 2) := by decide +kernel
theorem dX3_move_18 : decode cX3_move 18 = .ok (.ireturn, 1) := by decide +kernel
theorem dX3_move_19 : decode cX3_move 19 = .ok (.aload_n 0, 1) := by decide +kernel
theorem dX3_move_20 : decode cX3_move 20 = .ok (.getfield 19, 3) := by decide +kernel
theorem dX3_move_23 : decode cX3_move 23 = .ok (.iload_n 1, 1) := by decide +kernel
theorem dX3_move_24 : decode cX3_move 24 = .ok (.iaload, 1) := by decide +kernel
theorem dX3_move_25 : decode cX3_move 25 = .ok (.istore_n 3, 1) := by decide +kernel
theorem dX3_move_26 : decode cX3_move 26 = .ok (.aload_n 0, 1) := by decide +kernel
theorem dX3_move_27 : decode cX3_move 27 = .ok (.getfield 19, 3) := by decide +kernel
theorem dX3_move_30 : decode cX3_move 30 = .ok (.iload_n 1, 1) := by decide +kernel
theorem dX3_move_31 : decode cX3_move 31 = .ok (.iload_n 2, 1) := by decide +kernel
theorem dX3_move_32 : decode cX3_move 32 = .ok (.iastore, 1) := by decide +kernel
theorem dX3_move_33 : decode cX3_move 33 = .ok (.iload_n 3, 1) := by decide +kernel
theorem dX3_move_34 : decode cX3_move 34 = .ok (.ireturn, 1) := by decide +kernel
set_option maxRecDepth 20000 in
theorem ggX3_lay_X3_isDrawer : GoodIn wsX3_lay wsX3_isDrawer := goodIn_r _ [6, 7, 8, 9, 5, 10, 14, 15, 16, 17, 18, 19, 20, 21, 22, 23, 24, 25, 26, 27, 28, 29, 30, 31, 32, 33, 34, 35, 36, 37, 38, 39, 40, 41, 42] (by decide +kernel) (by decide +kernel)
set_option maxRecDepth 20000 in
theorem gX3_lay_X3_isDrawer : GoodIn wsX3_lay (wsV RX3 122 RX3 yX3_isDrawer wsX3_isDrawer) := goodIn_app (goodIn_of _ (by decide +kernel)) ggX3_lay_X3_isDrawer
set_option maxRecDepth 20000 in
theorem ggX3_lay_X3_isDay : GoodIn wsX3_lay wsX3_isDay := goodIn_r _ [13, 8, 9, 5, 10] (by decide +kernel) (by decide +kernel)
set_option maxRecDepth 20000 in
theorem gX3_lay_X3_isDay : GoodIn wsX3_lay (va_wsS RX3 129 yX3_isDay wsX3_isDay) := goodIn_app (goodIn_of _ (by decide +kernel)) ggX3_lay_X3_isDay
theorem dX3_lay_0 : decode cX3_lay 0 = .ok (.aload_n 0, 1) := by decide +kernel
theorem dX3_lay_1 : decode cX3_lay 1 = .ok (.iload_n 1, 1) := by decide +kernel
theorem dX3_lay_2 : decode cX3_lay 2 = .ok (.invokevirtual 122, 3) := by decide +kernel
theorem dX3_lay_5 : decode cX3_lay 5 = .ok (.ifCond .eq 10, 3) := by decide +kernel
theorem dX3_lay_8 : decode cX3_lay 8 = .ok (.iload_n 2, 1) := by decide +kernel
theorem dX3_lay_9 : decode cX3_lay 9 = .ok (.invokestatic 129, 3) := by decide +kernel
theorem dX3_lay_12 : decode cX3_lay 12 = .ok (.ifCond .ne 6, 3) := by decide +kernel
theorem dX3_lay_15 : decode cX3_lay 15 = .ok (.bipush (-101), 2) := by decide +kernel
theorem dX3_lay_17 : decode cX3_lay 17 = .ok (.ireturn, 1) := by decide +kernel
theorem dX3_lay_18 : decode cX3_lay 18 = .ok (.aload_n 0, 1) := by decide +kernel
theorem dX3_lay_19 : decode cX3_lay 19 = .ok (.getfield 13, 3) := by decide +kernel
theorem dX3_lay_22 : decode cX3_lay 22 = .ok (.iload_n 1, 1) := by decide +kernel
theorem dX3_lay_23 : decode cX3_lay 23 = .ok (.iaload, 1) := by decide +kernel
theorem dX3_lay_24 : decode cX3_lay 24 = .ok (.iload_n 2, 1) := by decide +kernel
theorem dX3_lay_25 : decode cX3_lay 25 = .ok (.ishr, 1) := by decide +kernel
theorem dX3_lay_26 : decode cX3_lay 26 = .ok (.iconst 1, 1) := by decide +kernel
theorem dX3_lay_27 : decode cX3_lay 27 = .ok (.iand, 1) := by decide +kernel
theorem dX3_lay_28 : decode cX3_lay 28 = .ok (.istore 4, 2) := by decide +kernel
theorem dX3_lay_30 : decode cX3_lay 30 = .ok (.aload_n 0, 1) := by decide +kernel
theorem dX3_lay_31 : decode cX3_lay 31 = .ok (.getfield 13, 3) := by decide +kernel
theorem dX3_lay_34 : decode cX3_lay 34 = .ok (.iload_n 1, 1) := by decide +kernel
theorem dX3_lay_35 : decode cX3_lay 35 = .ok (.iload_n 3, 1) := by decide +kernel
theorem dX3_lay_36 : decode cX3_lay 36 = .ok (.ifCond .eq 16, 3) := by decide +kernel
theorem dX3_lay_39 : decode cX3_lay 39 = .ok (.aload_n 0, 1) := by decide +kernel
theorem dX3_lay_40 : decode cX3_lay 40 = .ok (.getfield 13, 3) := by decide +kernel
theorem dX3_lay_43 : decode cX3_lay 43 = .ok (.iload_n 1, 1) := by decide +kernel
theorem dX3_lay_44 : decode cX3_lay 44 = .ok (.iaload, 1) := by decide +kernel
theorem dX3_lay_45 : decode cX3_lay 45 = .ok (.iconst 1, 1) := by decide +kernel
theorem dX3_lay_46 : decode cX3_lay 46 = .ok (.iload_n 2, 1) := by decide +kernel
theorem dX3_lay_47 : decode cX3_lay 47 = .ok (.ishl, 1) := by decide +kernel
theorem dX3_lay_48 : decode cX3_lay 48 = .ok (.ior, 1) := by decide +kernel
theorem dX3_lay_49 : decode cX3_lay 49 = .ok (.goto 15, 3) := by decide +kernel
theorem dX3_lay_52 : decode cX3_lay 52 = .ok (.aload_n 0, 1) := by decide +kernel
theorem dX3_lay_53 : decode cX3_lay 53 = .ok (.getfield 13, 3) := by decide +kernel
theorem dX3_lay_56 : decode cX3_lay 56 = .ok (.iload_n 1, 1) := by decide +kernel
theorem dX3_lay_57 : decode cX3_lay 57 = .ok (.iaload, 1) := by decide +kernel
theorem dX3_lay_58 : decode cX3_lay 58 = .ok (.iconst 1, 1) := by decide +kernel
end
section
theorem dX3_lay_59 : decode cX3_lay 59 = .ok (.iload_n 2, 1) := by decide +kernel
theorem dX3_lay_60 : decode cX3_lay 60 = .ok (.ishl, 1) := by decide +kernel
theorem dX3_lay_61 : decode cX3_lay 61 = .ok (.iconst (-1), 1) := by decide +kernel
theorem dX3_lay_62 : decode cX3_lay 62 = .ok (.ixor, 1) := by decide +kernel
theorem dX3_lay_63 : decode cX3_lay 63 = .ok (.iand, 1) := by decide +kernel
theorem dX3_lay_64 : decode cX3_lay 64 = .ok (.iastore, 1) := by decide +kernel
theorem dX3_lay_65 : decode cX3_lay 65 = .ok (.iload 4, 2) := by decide +kernel
theorem dX3_lay_67 : decode cX3_lay 67 = .ok (.ireturn, 1) := by decide +kernel
set_option maxRecDepth 20000 in
theorem ggX3_agrees_X3_isDrawer : GoodIn wsX3_agrees wsX3_isDrawer := goodIn_r _ [5, 6, 7, 8, 4, 9, 39, 40, 41, 42, 43, 44, 45, 46, 47, 48, 49, 50, 51, 52, 53, 54, 55, 56, 57, 58, 59, 60, 61, 62, 63, 64, 65, 66, 67] (by decide +kernel) (by decide +kernel)
set_option maxRecDepth 20000 in
theorem gX3_agrees_X3_isDrawer : GoodIn wsX3_agrees (wsV RX3 122 RX3 yX3_isDrawer wsX3_isDrawer) := goodIn_app (goodIn_of _ (by decide +kernel)) ggX3_agrees_X3_isDrawer
set_option maxRecDepth 20000 in
theorem ggX3_agrees_X3_within : GoodIn wsX3_agrees wsX3_within := goodIn_r _ [9] (by decide +kernel) (by decide +kernel)
set_option maxRecDepth 20000 in
theorem gX3_agrees_X3_within : GoodIn wsX3_agrees (va_wsS RX3 56 yX3_within wsX3_within) := goodIn_app (goodIn_of _ (by decide +kernel)) ggX3_agrees_X3_within
set_option maxRecDepth 20000 in
theorem ggX3_agrees_X3_isSo : GoodIn wsX3_agrees wsX3_isSo := goodIn_r _ [13, 14, 15, 16, 17, 4, 18, 19, 20, 21, 22, 23, 24, 25, 26, 27, 28, 29, 30, 31, 32, 33, 34, 35, 36, 37, 38, 39, 40, 41, 42, 43, 44, 45, 46, 47, 48, 49, 50, 51, 52, 53, 54, 55, 56, 57, 58, 59, 60, 61, 62, 63, 64, 65, 66, 67] (by decide +kernel) (by decide +kernel)
set_option maxRecDepth 20000 in
theorem gX3_agrees_X3_isSo : GoodIn wsX3_agrees (wsV RX3 107 RX3 yX3_isSo wsX3_isSo) := goodIn_app (goodIn_of _ (by decide +kernel)) ggX3_agrees_X3_isSo
theorem dX3_agrees_0 : decode cX3_agrees 0 = .ok (.aload_n 0, 1) := by decide +kernel
theorem dX3_agrees_1 : decode cX3_agrees 1 = .ok (.iload_n 1, 1) := by decide +kernel
theorem dX3_agrees_2 : decode cX3_agrees 2 = .ok (.invokevirtual 122, 3) := by decide +kernel
theorem dX3_agrees_5 : decode cX3_agrees 5 = .ok (.ifCond .ne 6, 3) := by decide +kernel
theorem dX3_agrees_8 : decode cX3_agrees 8 = .ok (.bipush (-101), 2) := by decide +kernel
theorem dX3_agrees_10 : decode cX3_agrees 10 = .ok (.ireturn, 1) := by decide +kernel
theorem dX3_agrees_11 : decode cX3_agrees 11 = .ok (.iload_n 2, 1) := by decide +kernel
theorem dX3_agrees_12 : decode cX3_agrees 12 = .ok (.iconst 0, 1) := by decide +kernel
theorem dX3_agrees_13 : decode cX3_agrees 13 = .ok (.bipush 127, 2) := by decide +kernel
theorem dX3_agrees_15 : decode cX3_agrees 15 = .ok (.invokestatic 56, 3) := by decide +kernel
theorem dX3_agrees_18 : decode cX3_agrees 18 = .ok (.ifCond .ne 6, 3) := by decide +kernel
theorem dX3_agrees_21 : decode cX3_agrees 21 = .ok (.bipush (-102), 2) := by decide +kernel
theorem dX3_agrees_23 : decode cX3_agrees 23 = .ok (.ireturn, 1) := by decide +kernel
theorem dX3_agrees_24 : decode cX3_agrees 24 = .ok (.aload_n 0, 1) := by decide +kernel
theorem dX3_agrees_25 : decode cX3_agrees 25 = .ok (.iload_n 1, 1) := by decide +kernel
theorem dX3_agrees_26 : decode cX3_agrees 26 = .ok (.iload_n 2, 1) := by decide +kernel
theorem dX3_agrees_27 : decode cX3_agrees 27 = .ok (.invokevirtual 107, 3) := by decide +kernel
theorem dX3_agrees_30 : decode cX3_agrees 30 = .ok (.ifCond .eq 7, 3) := by decide +kernel
theorem dX3_agrees_33 : decode cX3_agrees 33 = .ok (.iconst 1, 1) := by decide +kernel
theorem dX3_agrees_34 : decode cX3_agrees 34 = .ok (.goto 4, 3) := by decide +kernel
theorem dX3_agrees_37 : decode cX3_agrees 37 = .ok (.iconst 0, 1) := by decide +kernel
theorem dX3_agrees_38 : decode cX3_agrees 38 = .ok (.ireturn, 1) := by decide +kernel
set_option maxRecDepth 20000 in
theorem ggX3_sureNow_X3_isSo : GoodIn wsX3_sureNow wsX3_isSo := goodIn_r _ [5, 6, 7, 8, 9, 4, 10, 11, 12, 13, 14, 15, 16, 17, 18, 19, 20, 21, 22, 23, 24, 25, 26, 27, 28, 29, 30, 31, 32, 33, 34, 35, 36, 37, 38, 39, 40, 41, 42, 43, 44, 45, 46, 47, 48, 49, 50, 51, 52, 53, 54, 55, 56, 57, 58, 59] (by decide +kernel) (by decide +kernel)
set_option maxRecDepth 20000 in
theorem gX3_sureNow_X3_isSo : GoodIn wsX3_sureNow (wsV RX3 107 RX3 yX3_isSo wsX3_isSo) := goodIn_app (goodIn_of _ (by decide +kernel)) ggX3_sureNow_X3_isSo
theorem dX3_sureNow_0 : decode cX3_sureNow 0 = .ok (.iconst 0, 1) := by decide +kernel
theorem dX3_sureNow_1 : decode cX3_sureNow 1 = .ok (.istore_n 3, 1) := by decide +kernel
theorem dX3_sureNow_2 : decode cX3_sureNow 2 = .ok (.iconst 0, 1) := by decide +kernel
theorem dX3_sureNow_3 : decode cX3_sureNow 3 = .ok (.istore 4, 2) := by decide +kernel
theorem dX3_sureNow_5 : decode cX3_sureNow 5 = .ok (.iload 4, 2) := by decide +kernel
theorem dX3_sureNow_7 : decode cX3_sureNow 7 = .ok (.sipush 128, 3) := by decide +kernel
theorem dX3_sureNow_10 : decode cX3_sureNow 10 = .ok (.if_icmp .ge 34, 3) := by decide +kernel
theorem dX3_sureNow_13 : decode cX3_sureNow 13 = .ok (.iload_n 3, 1) := by decide +kernel
theorem dX3_sureNow_14 : decode cX3_sureNow 14 = .ok (.aload_n 0, 1) := by decide +kernel
theorem dX3_sureNow_15 : decode cX3_sureNow 15 = .ok (.iload_n 1, 1) := by decide +kernel
theorem dX3_sureNow_16 : decode cX3_sureNow 16 = .ok (.iload 4, 2) := by decide +kernel
theorem dX3_sureNow_18 : decode cX3_sureNow 18 = .ok (.invokevirtual 107, 3) := by decide +kernel
theorem dX3_sureNow_21 : decode cX3_sureNow 21 = .ok (.ifCond .eq 14, 3) := by decide +kernel
theorem dX3_sureNow_24 : decode cX3_sureNow 24 = .ok (.iconst 1, 1) := by decide +kernel
theorem dX3_sureNow_25 : decode cX3_sureNow 25 = .ok (.iload 4, 2) := by decide +kernel
theorem dX3_sureNow_27 : decode cX3_sureNow 27 = .ok (.iload_n 2, 1) := by decide +kernel
theorem dX3_sureNow_28 : decode cX3_sureNow 28 = .ok (.ishr, 1) := by decide +kernel
theorem dX3_sureNow_29 : decode cX3_sureNow 29 = .ok (.iconst 1, 1) := by decide +kernel
theorem dX3_sureNow_30 : decode cX3_sureNow 30 = .ok (.iand, 1) := by decide +kernel
theorem dX3_sureNow_31 : decode cX3_sureNow 31 = .ok (.ishl, 1) := by decide +kernel
theorem dX3_sureNow_32 : decode cX3_sureNow 32 = .ok (.goto 4, 3) := by decide +kernel
theorem dX3_sureNow_35 : decode cX3_sureNow 35 = .ok (.iconst 0, 1) := by decide +kernel
theorem dX3_sureNow_36 : decode cX3_sureNow 36 = .ok (.ior, 1) := by decide +kernel
theorem dX3_sureNow_37 : decode cX3_sureNow 37 = .ok (.istore_n 3, 1) := by decide +kernel
theorem dX3_sureNow_38 : decode cX3_sureNow 38 = .ok (.iinc 4 1, 3) := by decide +kernel
theorem dX3_sureNow_41 : decode cX3_sureNow 41 = .ok (.goto (-36), 3) := by decide +kernel
theorem dX3_sureNow_44 : decode cX3_sureNow 44 = .ok (.iload_n 3, 1) := by decide +kernel
theorem dX3_sureNow_45 : decode cX3_sureNow 45 = .ok (.iconst 1, 1) := by decide +kernel
theorem dX3_sureNow_46 : decode cX3_sureNow 46 = .ok (.if_icmp .ne 7, 3) := by decide +kernel
theorem dX3_sureNow_49 : decode cX3_sureNow 49 = .ok (.iconst 0, 1) := by decide +kernel
theorem dX3_sureNow_50 : decode cX3_sureNow 50 = .ok (.goto 13, 3) := by decide +kernel
theorem dX3_sureNow_53 : decode cX3_sureNow 53 = .ok (.iload_n 3, 1) := by decide +kernel
theorem dX3_sureNow_54 : decode cX3_sureNow 54 = .ok (.iconst 2, 1) := by decide +kernel
theorem dX3_sureNow_55 : decode cX3_sureNow 55 = .ok (.if_icmp .ne 7, 3) := by decide +kernel
theorem dX3_sureNow_58 : decode cX3_sureNow 58 = .ok (.iconst 1, 1) := by decide +kernel
theorem dX3_sureNow_59 : decode cX3_sureNow 59 = .ok (.goto 4, 3) := by decide +kernel
theorem dX3_sureNow_62 : decode cX3_sureNow 62 = .ok (.iconst (-1), 1) := by decide +kernel
theorem dX3_sureNow_63 : decode cX3_sureNow 63 = .ok (.ireturn, 1) := by decide +kernel
set_option maxRecDepth 20000 in
theorem ggX3_sure_X3_isDrawer : GoodIn wsX3_sure wsX3_isDrawer := goodIn_r _ [5, 6, 7, 8, 4, 9, 46, 47, 48, 49, 50, 51, 52, 53, 54, 55, 56, 57, 58, 59, 60, 61, 62, 63, 64, 65, 66, 67, 68, 69, 70, 71, 72, 73, 74] (by decide +kernel) (by decide +kernel)
set_option maxRecDepth 20000 in
theorem gX3_sure_X3_isDrawer : GoodIn wsX3_sure (wsV RX3 122 RX3 yX3_isDrawer wsX3_isDrawer) := goodIn_app (goodIn_of _ (by decide +kernel)) ggX3_sure_X3_isDrawer
set_option maxRecDepth 20000 in
theorem ggX3_sure_X3_isDay : GoodIn wsX3_sure wsX3_isDay := goodIn_r _ [12, 7, 8, 4, 9] (by decide +kernel) (by decide +kernel)
set_option maxRecDepth 20000 in
theorem gX3_sure_X3_isDay : GoodIn wsX3_sure (va_wsS RX3 129 yX3_isDay wsX3_isDay) := goodIn_app (goodIn_of _ (by decide +kernel)) ggX3_sure_X3_isDay
set_option maxRecDepth 20000 in
theorem ggX3_sure_X3_sureNow : GoodIn wsX3_sure wsX3_sureNow := goodIn_r _ [16, 17, 18, 19, 4, 20, 21, 22, 23, 24, 25, 26, 27, 28, 29, 30, 31, 32, 33, 34, 35, 36, 37, 38, 39, 40, 41, 42, 43, 44, 45, 46, 47, 48, 49, 50, 51, 52, 53, 54, 55, 56, 57, 58, 59, 60, 61, 62, 63, 64, 65, 66, 67, 68, 69, 70, 71, 72, 73, 74] (by decide +kernel) (by decide +kernel)
set_option maxRecDepth 20000 in
theorem gX3_sure_X3_sureNow : GoodIn wsX3_sure (wsV RX3 138 RX3 yX3_sureNow wsX3_sureNow) := goodIn_app (goodIn_of _ (by decide +kernel)) ggX3_sure_X3_sureNow
theorem dX3_sure_0 : decode cX3_sure 0 = .ok (.aload_n 0, 1) := by decide +kernel
theorem dX3_sure_1 : decode cX3_sure 1 = .ok (.iload_n 1, 1) := by decide +kernel
theorem dX3_sure_2 : decode cX3_sure 2 = .ok (.invokevirtual 122, 3) := by decide +kernel
theorem dX3_sure_5 : decode cX3_sure 5 = .ok (.ifCond .eq 19, 3) := by decide +kernel
theorem dX3_sure_8 : decode cX3_sure 8 = .ok (.iload_n 2, 1) := by decide +kernel
theorem dX3_sure_9 : decode cX3_sure 9 = .ok (.invokestatic 129, 3) := by decide +kernel
theorem dX3_sure_12 : decode cX3_sure 12 = .ok (.ifCond .eq 12, 3) := by decide +kernel
theorem dX3_sure_15 : decode cX3_sure 15 = .ok (.aload_n 0, 1) := by decide +kernel
theorem dX3_sure_16 : decode cX3_sure 16 = .ok (.iload_n 1, 1) := by decide +kernel
theorem dX3_sure_17 : decode cX3_sure 17 = .ok (.iload_n 2, 1) := by decide +kernel
theorem dX3_sure_18 : decode cX3_sure 18 = .ok (.invokevirtual 138, 3) := by decide +kernel
theorem dX3_sure_21 : decode cX3_sure 21 = .ok (.goto 5, 3) := by decide +kernel
theorem dX3_sure_24 : decode cX3_sure 24 = .ok (.bipush (-101), 2) := by decide +kernel
theorem dX3_sure_26 : decode cX3_sure 26 = .ok (.ireturn, 1) := by decide +kernel
set_option maxRecDepth 20000 in
theorem ggX3_isEnough_X3_aheadOf : GoodIn wsX3_isEnough wsX3_aheadOf := goodIn_r _ [5, 6, 7, 26, 27, 28, 29, 30, 31, 32, 33, 34, 35, 36, 37, 38, 39, 40, 41, 42, 43, 44, 45, 46, 47, 48, 49, 50, 51, 52, 53, 54] (by decide +kernel) (by decide +kernel)
set_option maxRecDepth 20000 in
theorem gX3_isEnough_X3_aheadOf : GoodIn wsX3_isEnough (wsV RX3 100 RX3 yX3_aheadOf wsX3_aheadOf) := goodIn_app (goodIn_of _ (by decide +kernel)) ggX3_isEnough_X3_aheadOf
set_option maxRecDepth 20000 in
theorem ggX3_isEnough_X3_firstWrong : GoodIn wsX3_isEnough wsX3_firstWrong := goodIn_r _ [11, 12, 13, 14, 4, 15, 16, 17, 18, 19, 20, 21, 22, 23, 24, 25, 26, 27, 28, 29, 30, 31, 32, 33, 34, 35, 36, 37, 38, 39, 40, 41, 42, 43, 44, 45, 46, 47, 48, 49, 50, 51, 52, 53, 54] (by decide +kernel) (by decide +kernel)
set_option maxRecDepth 20000 in
theorem gX3_isEnough_X3_firstWrong : GoodIn wsX3_isEnough (wsV RX3 103 RX3 yX3_firstWrong wsX3_firstWrong) := goodIn_app (goodIn_of _ (by decide +kernel)) ggX3_isEnough_X3_firstWrong
theorem dX3_isEnough_0 : decode cX3_isEnough 0 = .ok (.iconst 0, 1) := by decide +kernel
theorem dX3_isEnough_1 : decode cX3_isEnough 1 = .ok (.istore 4, 2) := by decide +kernel
theorem dX3_isEnough_3 : decode cX3_isEnough 3 = .ok (.iconst 1, 1) := by decide +kernel
theorem dX3_isEnough_4 : decode cX3_isEnough 4 = .ok (.istore 5, 2) := by decide +kernel
theorem dX3_isEnough_6 : decode cX3_isEnough 6 = .ok (.iconst 0, 1) := by decide +kernel
theorem dX3_isEnough_7 : decode cX3_isEnough 7 = .ok (.istore 6, 2) := by decide +kernel
theorem dX3_isEnough_9 : decode cX3_isEnough 9 = .ok (.iload 6, 2) := by decide +kernel
theorem dX3_isEnough_11 : decode cX3_isEnough 11 = .ok (.sipush 128, 3) := by decide +kernel
theorem dX3_isEnough_14 : decode cX3_isEnough 14 = .ok (.if_icmp .ge 50, 3) := by decide +kernel
theorem dX3_isEnough_17 : decode cX3_isEnough 17 = .ok (.aload_n 0, 1) := by decide +kernel
theorem dX3_isEnough_18 : decode cX3_isEnough 18 = .ok (.iload_n 1, 1) := by decide +kernel
theorem dX3_isEnough_19 : decode cX3_isEnough 19 = .ok (.iload 6, 2) := by decide +kernel
theorem dX3_isEnough_21 : decode cX3_isEnough 21 = .ok (.aload_n 0, 1) := by decide +kernel
theorem dX3_isEnough_22 : decode cX3_isEnough 22 = .ok (.iload_n 1, 1) := by decide +kernel
theorem dX3_isEnough_23 : decode cX3_isEnough 23 = .ok (.invokevirtual 100, 3) := by decide +kernel
theorem dX3_isEnough_26 : decode cX3_isEnough 26 = .ok (.iload_n 3, 1) := by decide +kernel
theorem dX3_isEnough_27 : decode cX3_isEnough 27 = .ok (.invokevirtual 103, 3) := by decide +kernel
theorem dX3_isEnough_30 : decode cX3_isEnough 30 = .ok (.bipush 7, 2) := by decide +kernel
theorem dX3_isEnough_32 : decode cX3_isEnough 32 = .ok (.if_icmp .ne 26, 3) := by decide +kernel
theorem dX3_isEnough_35 : decode cX3_isEnough 35 = .ok (.iconst 1, 1) := by decide +kernel
theorem dX3_isEnough_36 : decode cX3_isEnough 36 = .ok (.istore 4, 2) := by decide +kernel
theorem dX3_isEnough_38 : decode cX3_isEnough 38 = .ok (.iload 5, 2) := by decide +kernel
theorem dX3_isEnough_40 : decode cX3_isEnough 40 = .ok (.ifCond .eq 15, 3) := by decide +kernel
theorem dX3_isEnough_43 : decode cX3_isEnough 43 = .ok (.iload 6, 2) := by decide +kernel
theorem dX3_isEnough_45 : decode cX3_isEnough 45 = .ok (.iload_n 2, 1) := by decide +kernel
theorem dX3_isEnough_46 : decode cX3_isEnough 46 = .ok (.iand, 1) := by decide +kernel
theorem dX3_isEnough_47 : decode cX3_isEnough 47 = .ok (.iload_n 2, 1) := by decide +kernel
theorem dX3_isEnough_48 : decode cX3_isEnough 48 = .ok (.if_icmp .ne 7, 3) := by decide +kernel
theorem dX3_isEnough_51 : decode cX3_isEnough 51 = .ok (.iconst 1, 1) := by decide +kernel
theorem dX3_isEnough_52 : decode cX3_isEnough 52 = .ok (.goto 4, 3) := by decide +kernel
theorem dX3_isEnough_55 : decode cX3_isEnough 55 = .ok (.iconst 0, 1) := by decide +kernel
theorem dX3_isEnough_56 : decode cX3_isEnough 56 = .ok (.istore 5, 2) := by decide +kernel
theorem dX3_isEnough_58 : decode cX3_isEnough 58 = .ok (.iinc 6 1, 3) := by decide +kernel
theorem dX3_isEnough_61 : decode cX3_isEnough 61 = .ok (.goto (-52), 3) := by decide +kernel
theorem dX3_isEnough_64 : decode cX3_isEnough 64 = .ok (.iload 4, 2) := by decide +kernel
theorem dX3_isEnough_66 : decode cX3_isEnough 66 = .ok (.ifCond .eq 12, 3) := by decide +kernel
theorem dX3_isEnough_69 : decode cX3_isEnough 69 = .ok (.iload 5, 2) := by decide +kernel
theorem dX3_isEnough_71 : decode cX3_isEnough 71 = .ok (.ifCond .eq 7, 3) := by decide +kernel
theorem dX3_isEnough_74 : decode cX3_isEnough 74 = .ok (.iconst 1, 1) := by decide +kernel
theorem dX3_isEnough_75 : decode cX3_isEnough 75 = .ok (.goto 4, 3) := by decide +kernel
theorem dX3_isEnough_78 : decode cX3_isEnough 78 = .ok (.iconst 0, 1) := by decide +kernel
theorem dX3_isEnough_79 : decode cX3_isEnough 79 = .ok (.ireturn, 1) := by decide +kernel
set_option maxRecDepth 20000 in
theorem ggX3_fewNow_X3_size : GoodIn wsX3_fewNow wsX3_size := goodIn_r _ [4] (by decide +kernel) (by decide +kernel)
set_option maxRecDepth 20000 in
theorem gX3_fewNow_X3_size : GoodIn wsX3_fewNow (va_wsS RX3 141 yX3_size wsX3_size) := goodIn_app (goodIn_of _ (by decide +kernel)) ggX3_fewNow_X3_size
set_option maxRecDepth 20000 in
theorem ggX3_fewNow_X3_isEnough : GoodIn wsX3_fewNow wsX3_isEnough := goodIn_r _ [8, 9, 10, 11, 3, 12, 13, 14, 15, 16, 17, 18, 19, 20, 21, 22, 23, 24, 25, 26, 27, 28, 29, 30, 31, 32, 33, 34, 35, 36, 37, 38, 39, 40, 41, 42, 43, 44, 45, 46, 47, 48, 49, 50, 51, 52, 53, 54, 55, 56, 57, 58, 59, 60, 61] (by decide +kernel) (by decide +kernel)
set_option maxRecDepth 20000 in
theorem gX3_fewNow_X3_isEnough : GoodIn wsX3_fewNow (wsV RX3 144 RX3 yX3_isEnough wsX3_isEnough) := goodIn_app (goodIn_of _ (by decide +kernel)) ggX3_fewNow_X3_isEnough
theorem dX3_fewNow_0 : decode cX3_fewNow 0 = .ok (.iconst (-1), 1) := by decide +kernel
theorem dX3_fewNow_1 : decode cX3_fewNow 1 = .ok (.istore 4, 2) := by decide +kernel
theorem dX3_fewNow_3 : decode cX3_fewNow 3 = .ok (.iconst 0, 1) := by decide +kernel
theorem dX3_fewNow_4 : decode cX3_fewNow 4 = .ok (.istore 5, 2) := by decide +kernel
theorem dX3_fewNow_6 : decode cX3_fewNow 6 = .ok (.iload 5, 2) := by decide +kernel
theorem dX3_fewNow_8 : decode cX3_fewNow 8 = .ok (.sipush 128, 3) := by decide +kernel
theorem dX3_fewNow_11 : decode cX3_fewNow 11 = .ok (.if_icmp .ge 60, 3) := by decide +kernel
theorem dX3_fewNow_14 : decode cX3_fewNow 14 = .ok (.iload 4, 2) := by decide +kernel
theorem dX3_fewNow_16 : decode cX3_fewNow 16 = .ok (.iconst (-1), 1) := by decide +kernel
theorem dX3_fewNow_17 : decode cX3_fewNow 17 = .ok (.if_icmp .eq 16, 3) := by decide +kernel
theorem dX3_fewNow_20 : decode cX3_fewNow 20 = .ok (.iload 5, 2) := by decide +kernel
theorem dX3_fewNow_22 : decode cX3_fewNow 22 = .ok (.invokestatic 141, 3) := by decide +kernel
theorem dX3_fewNow_25 : decode cX3_fewNow 25 = .ok (.iload 4, 2) := by decide +kernel
theorem dX3_fewNow_27 : decode cX3_fewNow 27 = .ok (.invokestatic 141, 3) := by decide +kernel
theorem dX3_fewNow_30 : decode cX3_fewNow 30 = .ok (.if_icmp .ge 7, 3) := by decide +kernel
theorem dX3_fewNow_33 : decode cX3_fewNow 33 = .ok (.iconst 1, 1) := by decide +kernel
theorem dX3_fewNow_34 : decode cX3_fewNow 34 = .ok (.goto 4, 3) := by decide +kernel
theorem dX3_fewNow_37 : decode cX3_fewNow 37 = .ok (.iconst 0, 1) := by decide +kernel
theorem dX3_fewNow_38 : decode cX3_fewNow 38 = .ok (.istore 6, 2) := by decide +kernel
theorem dX3_fewNow_40 : decode cX3_fewNow 40 = .ok (.iload 6, 2) := by decide +kernel
theorem dX3_fewNow_42 : decode cX3_fewNow 42 = .ok (.ifCond .eq 19, 3) := by decide +kernel
theorem dX3_fewNow_45 : decode cX3_fewNow 45 = .ok (.aload_n 0, 1) := by decide +kernel
theorem dX3_fewNow_46 : decode cX3_fewNow 46 = .ok (.iload_n 1, 1) := by decide +kernel
theorem dX3_fewNow_47 : decode cX3_fewNow 47 = .ok (.iload_n 2, 1) := by decide +kernel
theorem dX3_fewNow_48 : decode cX3_fewNow 48 = .ok (.iload 5, 2) := by decide +kernel
theorem dX3_fewNow_50 : decode cX3_fewNow 50 = .ok (.invokevirtual 144, 3) := by decide +kernel
theorem dX3_fewNow_53 : decode cX3_fewNow 53 = .ok (.ifCond .eq 8, 3) := by decide +kernel
theorem dX3_fewNow_56 : decode cX3_fewNow 56 = .ok (.iload 5, 2) := by decide +kernel
theorem dX3_fewNow_58 : decode cX3_fewNow 58 = .ok (.goto 5, 3) := by decide +kernel
theorem dX3_fewNow_61 : decode cX3_fewNow 61 = .ok (.iload 4, 2) := by decide +kernel
theorem dX3_fewNow_63 : decode cX3_fewNow 63 = .ok (.istore 4, 2) := by decide +kernel
theorem dX3_fewNow_65 : decode cX3_fewNow 65 = .ok (.iinc 5 1, 3) := by decide +kernel
theorem dX3_fewNow_68 : decode cX3_fewNow 68 = .ok (.goto (-62), 3) := by decide +kernel
theorem dX3_fewNow_71 : decode cX3_fewNow 71 = .ok (.iload 4, 2) := by decide +kernel
theorem dX3_fewNow_73 : decode cX3_fewNow 73 = .ok (.iconst (-1), 1) := by decide +kernel
theorem dX3_fewNow_74 : decode cX3_fewNow 74 = .ok (.if_icmp .eq 8, 3) := by decide +kernel
theorem dX3_fewNow_77 : decode cX3_fewNow 77 = .ok (.iload_n 3, 1) := by decide +kernel
theorem dX3_fewNow_78 : decode cX3_fewNow 78 = .ok (.iconst 1, 1) := by decide +kernel
theorem dX3_fewNow_79 : decode cX3_fewNow 79 = .ok (.if_icmp .ne 8, 3) := by decide +kernel
theorem dX3_fewNow_82 : decode cX3_fewNow 82 = .ok (.iload 4, 2) := by decide +kernel
theorem dX3_fewNow_84 : decode cX3_fewNow 84 = .ok (.goto 8, 3) := by decide +kernel
theorem dX3_fewNow_87 : decode cX3_fewNow 87 = .ok (.iload 4, 2) := by decide +kernel
theorem dX3_fewNow_89 : decode cX3_fewNow 89 = .ok (.invokestatic 141, 3) := by decide +kernel
theorem dX3_fewNow_92 : decode cX3_fewNow 92 = .ok (.ireturn, 1) := by decide +kernel
set_option maxRecDepth 20000 in
theorem ggX3_few_X3_isDrawer : GoodIn wsX3_few wsX3_isDrawer := goodIn_r _ [6, 7, 8, 9, 5, 10, 46, 47, 48, 49, 50, 51, 52, 53, 54, 55, 56, 57, 58, 59, 60, 61, 62, 63, 64, 65, 66, 67, 68, 69, 70, 71, 72, 73, 74] (by decide +kernel) (by decide +kernel)
set_option maxRecDepth 20000 in
theorem gX3_few_X3_isDrawer : GoodIn wsX3_few (wsV RX3 122 RX3 yX3_isDrawer wsX3_isDrawer) := goodIn_app (goodIn_of _ (by decide +kernel)) ggX3_few_X3_isDrawer
set_option maxRecDepth 20000 in
theorem ggX3_few_X3_within : GoodIn wsX3_few wsX3_within := goodIn_r _ [10] (by decide +kernel) (by decide +kernel)
set_option maxRecDepth 20000 in
theorem gX3_few_X3_within : GoodIn wsX3_few (va_wsS RX3 56 yX3_within wsX3_within) := goodIn_app (goodIn_of _ (by decide +kernel)) ggX3_few_X3_within
set_option maxRecDepth 20000 in
theorem ggX3_few_X3_fewNow : GoodIn wsX3_few wsX3_fewNow := goodIn_r _ [14, 15, 16, 5, 17, 18, 19, 20, 21, 22, 23, 24, 25, 26, 27, 28, 29, 30, 31, 32, 33, 34, 35, 36, 37, 38, 39, 40, 41, 42, 43, 44, 45, 46, 47, 48, 49, 50, 51, 52, 53, 54, 55, 56, 57, 58, 59, 60, 61, 62, 63, 64, 65, 66, 67, 68, 69, 70, 71, 72, 73, 74] (by decide +kernel) (by decide +kernel)
set_option maxRecDepth 20000 in
theorem gX3_few_X3_fewNow : GoodIn wsX3_few (wsV RX3 150 RX3 yX3_fewNow wsX3_fewNow) := goodIn_app (goodIn_of _ (by decide +kernel)) ggX3_few_X3_fewNow
theorem dX3_few_0 : decode cX3_few 0 = .ok (.aload_n 0, 1) := by decide +kernel
theorem dX3_few_1 : decode cX3_few 1 = .ok (.iload_n 1, 1) := by decide +kernel
theorem dX3_few_2 : decode cX3_few 2 = .ok (.invokevirtual 122, 3) := by decide +kernel
theorem dX3_few_5 : decode cX3_few 5 = .ok (.ifCond .ne 6, 3) := by decide +kernel
theorem dX3_few_8 : decode cX3_few 8 = .ok (.bipush (-101), 2) := by decide +kernel
theorem dX3_few_10 : decode cX3_few 10 = .ok (.ireturn, 1) := by decide +kernel
theorem dX3_few_11 : decode cX3_few 11 = .ok (.iload_n 2, 1) := by decide +kernel
theorem dX3_few_12 : decode cX3_few 12 = .ok (.iconst 0, 1) := by decide +kernel
theorem dX3_few_13 : decode cX3_few 13 = .ok (.bipush 127, 2) := by decide +kernel
theorem dX3_few_15 : decode cX3_few 15 = .ok (.invokestatic 56, 3) := by decide +kernel
theorem dX3_few_18 : decode cX3_few 18 = .ok (.ifCond .eq 12, 3) := by decide +kernel
theorem dX3_few_21 : decode cX3_few 21 = .ok (.iload_n 3, 1) := by decide +kernel
theorem dX3_few_22 : decode cX3_few 22 = .ok (.iconst 0, 1) := by decide +kernel
theorem dX3_few_23 : decode cX3_few 23 = .ok (.iconst 1, 1) := by decide +kernel
theorem dX3_few_24 : decode cX3_few 24 = .ok (.invokestatic 56, 3) := by decide +kernel
theorem dX3_few_27 : decode cX3_few 27 = .ok (.ifCond .ne 6, 3) := by decide +kernel
theorem dX3_few_30 : decode cX3_few 30 = .ok (.bipush (-102), 2) := by decide +kernel
theorem dX3_few_32 : decode cX3_few 32 = .ok (.ireturn, 1) := by decide +kernel
theorem dX3_few_33 : decode cX3_few 33 = .ok (.aload_n 0, 1) := by decide +kernel
theorem dX3_few_34 : decode cX3_few 34 = .ok (.getfield 147, 3) := by decide +kernel
theorem dX3_few_37 : decode cX3_few 37 = .ok (.bipush 40, 2) := by decide +kernel
theorem dX3_few_39 : decode cX3_few 39 = .ok (.if_icmp .ne 6, 3) := by decide +kernel
theorem dX3_few_42 : decode cX3_few 42 = .ok (.bipush (-103), 2) := by decide +kernel
theorem dX3_few_44 : decode cX3_few 44 = .ok (.ireturn, 1) := by decide +kernel
theorem dX3_few_45 : decode cX3_few 45 = .ok (.aload_n 0, 1) := by decide +kernel
theorem dX3_few_46 : decode cX3_few 46 = .ok (.dup, 1) := by decide +kernel
theorem dX3_few_47 : decode cX3_few 47 = .ok (.getfield 147, 3) := by decide +kernel
theorem dX3_few_50 : decode cX3_few 50 = .ok (.iconst 1, 1) := by decide +kernel
theorem dX3_few_51 : decode cX3_few 51 = .ok (.iadd, 1) := by decide +kernel
theorem dX3_few_52 : decode cX3_few 52 = .ok (.putfield 147, 3) := by decide +kernel
theorem dX3_few_55 : decode cX3_few 55 = .ok (.aload_n 0, 1) := by decide +kernel
theorem dX3_few_56 : decode cX3_few 56 = .ok (.iload_n 1, 1) := by decide +kernel
theorem dX3_few_57 : decode cX3_few 57 = .ok (.iload_n 2, 1) := by decide +kernel
theorem dX3_few_58 : decode cX3_few 58 = .ok (.iload_n 3, 1) := by decide +kernel
theorem dX3_few_59 : decode cX3_few 59 = .ok (.invokevirtual 150, 3) := by decide +kernel
theorem dX3_few_62 : decode cX3_few 62 = .ok (.ireturn, 1) := by decide +kernel
set_option maxRecDepth 20000 in
theorem ggX3_found_X3_isDrawer : GoodIn wsX3_found wsX3_isDrawer := goodIn_r _ [9, 10, 11, 12, 8, 13, 17, 18, 19, 20, 21, 22, 23, 24, 25, 26, 27, 28, 29, 30, 31, 32, 33, 34, 35, 36, 37, 38, 39, 40, 41, 42, 43, 44, 45] (by decide +kernel) (by decide +kernel)
set_option maxRecDepth 20000 in
theorem gX3_found_X3_isDrawer : GoodIn wsX3_found (wsV RX3 122 RX3 yX3_isDrawer wsX3_isDrawer) := goodIn_app (goodIn_of _ (by decide +kernel)) ggX3_found_X3_isDrawer
set_option maxRecDepth 20000 in
theorem ggX3_found_X3_isDay : GoodIn wsX3_found wsX3_isDay := goodIn_r _ [16, 11, 12, 8, 13] (by decide +kernel) (by decide +kernel)
set_option maxRecDepth 20000 in
theorem gX3_found_X3_isDay : GoodIn wsX3_found (va_wsS RX3 129 yX3_isDay wsX3_isDay) := goodIn_app (goodIn_of _ (by decide +kernel)) ggX3_found_X3_isDay
theorem dX3_found_0 : decode cX3_found 0 = .ok (.aload_n 0, 1) := by decide +kernel
theorem dX3_found_1 : decode cX3_found 1 = .ok (.iload_n 1, 1) := by decide +kernel
theorem dX3_found_2 : decode cX3_found 2 = .ok (.invokevirtual 122, 3) := by decide +kernel
theorem dX3_found_5 : decode cX3_found 5 = .ok (.ifCond .eq 10, 3) := by decide +kernel
theorem dX3_found_8 : decode cX3_found 8 = .ok (.iload_n 2, 1) := by decide +kernel
theorem dX3_found_9 : decode cX3_found 9 = .ok (.invokestatic 129, 3) := by decide +kernel
theorem dX3_found_12 : decode cX3_found 12 = .ok (.ifCond .ne 6, 3) := by decide +kernel
theorem dX3_found_15 : decode cX3_found 15 = .ok (.bipush (-101), 2) := by decide +kernel
theorem dX3_found_17 : decode cX3_found 17 = .ok (.ireturn, 1) := by decide +kernel
theorem dX3_found_18 : decode cX3_found 18 = .ok (.aload_n 0, 1) := by decide +kernel
theorem dX3_found_19 : decode cX3_found 19 = .ok (.getfield 85, 3) := by decide +kernel
theorem dX3_found_22 : decode cX3_found 22 = .ok (.bipush 8, 2) := by decide +kernel
theorem dX3_found_24 : decode cX3_found 24 = .ok (.if_icmp .ne 6, 3) := by decide +kernel
theorem dX3_found_27 : decode cX3_found 27 = .ok (.bipush (-104), 2) := by decide +kernel
theorem dX3_found_29 : decode cX3_found 29 = .ok (.ireturn, 1) := by decide +kernel
theorem dX3_found_30 : decode cX3_found 30 = .ok (.aload_n 0, 1) := by decide +kernel
theorem dX3_found_31 : decode cX3_found 31 = .ok (.getfield 25, 3) := by decide +kernel
theorem dX3_found_34 : decode cX3_found 34 = .ok (.aload_n 0, 1) := by decide +kernel
theorem dX3_found_35 : decode cX3_found 35 = .ok (.getfield 85, 3) := by decide +kernel
theorem dX3_found_38 : decode cX3_found 38 = .ok (.iload_n 1, 1) := by decide +kernel
theorem dX3_found_39 : decode cX3_found 39 = .ok (.iastore, 1) := by decide +kernel
theorem dX3_found_40 : decode cX3_found 40 = .ok (.aload_n 0, 1) := by decide +kernel
theorem dX3_found_41 : decode cX3_found 41 = .ok (.getfield 28, 3) := by decide +kernel
theorem dX3_found_44 : decode cX3_found 44 = .ok (.aload_n 0, 1) := by decide +kernel
theorem dX3_found_45 : decode cX3_found 45 = .ok (.getfield 85, 3) := by decide +kernel
theorem dX3_found_48 : decode cX3_found 48 = .ok (.iload_n 2, 1) := by decide +kernel
theorem dX3_found_49 : decode cX3_found 49 = .ok (.iastore, 1) := by decide +kernel
theorem dX3_found_50 : decode cX3_found 50 = .ok (.aload_n 0, 1) := by decide +kernel
theorem dX3_found_51 : decode cX3_found 51 = .ok (.getfield 31, 3) := by decide +kernel
theorem dX3_found_54 : decode cX3_found 54 = .ok (.aload_n 0, 1) := by decide +kernel
theorem dX3_found_55 : decode cX3_found 55 = .ok (.getfield 85, 3) := by decide +kernel
theorem dX3_found_58 : decode cX3_found 58 = .ok (.iload_n 3, 1) := by decide +kernel
theorem dX3_found_59 : decode cX3_found 59 = .ok (.ifCond .eq 7, 3) := by decide +kernel
theorem dX3_found_62 : decode cX3_found 62 = .ok (.iconst 1, 1) := by decide +kernel
theorem dX3_found_63 : decode cX3_found 63 = .ok (.goto 4, 3) := by decide +kernel
theorem dX3_found_66 : decode cX3_found 66 = .ok (.iconst 0, 1) := by decide +kernel
theorem dX3_found_67 : decode cX3_found 67 = .ok (.iastore, 1) := by decide +kernel
theorem dX3_found_68 : decode cX3_found 68 = .ok (.aload_n 0, 1) := by decide +kernel
theorem dX3_found_69 : decode cX3_found 69 = .ok (.dup, 1) := by decide +kernel
theorem dX3_found_70 : decode cX3_found 70 = .ok (.getfield 85, 3) := by decide +kernel
theorem dX3_found_73 : decode cX3_found 73 = .ok (.iconst 1, 1) := by decide +kernel
theorem dX3_found_74 : decode cX3_found 74 = .ok (.iadd, 1) := by decide +kernel
theorem dX3_found_75 : decode cX3_found 75 = .ok (.putfield 85, 3) := by decide +kernel
theorem dX3_found_78 : decode cX3_found 78 = .ok (.aload_n 0, 1) := by decide +kernel
theorem dX3_found_79 : decode cX3_found 79 = .ok (.getfield 85, 3) := by decide +kernel
theorem dX3_found_82 : decode cX3_found 82 = .ok (.ireturn, 1) := by decide +kernel
theorem dX3_forget_0 : decode cX3_forget 0 = .ok (.aload_n 0, 1) := by decide +kernel
theorem dX3_forget_1 : decode cX3_forget 1 = .ok (.getfield 85, 3) := by decide +kernel
theorem dX3_forget_4 : decode cX3_forget 4 = .ok (.istore_n 1, 1) := by decide +kernel
theorem dX3_forget_5 : decode cX3_forget 5 = .ok (.aload_n 0, 1) := by decide +kernel
theorem dX3_forget_6 : decode cX3_forget 6 = .ok (.iconst 0, 1) := by decide +kernel
theorem dX3_forget_7 : decode cX3_forget 7 = .ok (.putfield 85, 3) := by decide +kernel
theorem dX3_forget_10 : decode cX3_forget 10 = .ok (.iload_n 1, 1) := by decide +kernel
theorem dX3_forget_11 : decode cX3_forget 11 = .ok (.ireturn, 1) := by decide +kernel
theorem dX3_isFound_0 : decode cX3_isFound 0 = .ok (.iconst 1, 1) := by decide +kernel
theorem dX3_isFound_1 : decode cX3_isFound 1 = .ok (.istore_n 3, 1) := by decide +kernel
theorem dX3_isFound_2 : decode cX3_isFound 2 = .ok (.iconst 0, 1) := by decide +kernel
theorem dX3_isFound_3 : decode cX3_isFound 3 = .ok (.istore 4, 2) := by decide +kernel
theorem dX3_isFound_5 : decode cX3_isFound 5 = .ok (.iload 4, 2) := by decide +kernel
theorem dX3_isFound_7 : decode cX3_isFound 7 = .ok (.aload_n 0, 1) := by decide +kernel
theorem dX3_isFound_8 : decode cX3_isFound 8 = .ok (.getfield 85, 3) := by decide +kernel
theorem dX3_isFound_11 : decode cX3_isFound 11 = .ok (.if_icmp .ge 51, 3) := by decide +kernel
theorem dX3_isFound_14 : decode cX3_isFound 14 = .ok (.iload_n 3, 1) := by decide +kernel
theorem dX3_isFound_15 : decode cX3_isFound 15 = .ok (.ifCond .eq 39, 3) := by decide +kernel
theorem dX3_isFound_18 : decode cX3_isFound 18 = .ok (.aload_n 0, 1) := by decide +kernel
theorem dX3_isFound_19 : decode cX3_isFound 19 = .ok (.getfield 25, 3) := by decide +kernel
theorem dX3_isFound_22 : decode cX3_isFound 22 = .ok (.iload 4, 2) := by decide +kernel
theorem dX3_isFound_24 : decode cX3_isFound 24 = .ok (.iaload, 1) := by decide +kernel
theorem dX3_isFound_25 : decode cX3_isFound 25 = .ok (.iload_n 1, 1) := by decide +kernel
theorem dX3_isFound_26 : decode cX3_isFound 26 = .ok (.if_icmp .ne 24, 3) := by decide +kernel
theorem dX3_isFound_29 : decode cX3_isFound 29 = .ok (.iload_n 2, 1) := by decide +kernel
theorem dX3_isFound_30 : decode cX3_isFound 30 = .ok (.aload_n 0, 1) := by decide +kernel
theorem dX3_isFound_31 : decode cX3_isFound 31 = .ok (.getfield 28, 3) := by decide +kernel
theorem dX3_isFound_34 : decode cX3_isFound 34 = .ok (.iload 4, 2) := by decide +kernel
theorem dX3_isFound_36 : decode cX3_isFound 36 = .ok (.iaload, 1) := by decide +kernel
theorem dX3_isFound_37 : decode cX3_isFound 37 = .ok (.ishr, 1) := by decide +kernel
theorem dX3_isFound_38 : decode cX3_isFound 38 = .ok (.iconst 1, 1) := by decide +kernel
theorem dX3_isFound_39 : decode cX3_isFound 39 = .ok (.iand, 1) := by decide +kernel
theorem dX3_isFound_40 : decode cX3_isFound 40 = .ok (.aload_n 0, 1) := by decide +kernel
theorem dX3_isFound_41 : decode cX3_isFound 41 = .ok (.getfield 31, 3) := by decide +kernel
theorem dX3_isFound_44 : decode cX3_isFound 44 = .ok (.iload 4, 2) := by decide +kernel
theorem dX3_isFound_46 : decode cX3_isFound 46 = .ok (.iaload, 1) := by decide +kernel
theorem dX3_isFound_47 : decode cX3_isFound 47 = .ok (.if_icmp .ne 7, 3) := by decide +kernel
theorem dX3_isFound_50 : decode cX3_isFound 50 = .ok (.iconst 1, 1) := by decide +kernel
theorem dX3_isFound_51 : decode cX3_isFound 51 = .ok (.goto 4, 3) := by decide +kernel
theorem dX3_isFound_54 : decode cX3_isFound 54 = .ok (.iconst 0, 1) := by decide +kernel
theorem dX3_isFound_55 : decode cX3_isFound 55 = .ok (.istore_n 3, 1) := by decide +kernel
theorem dX3_isFound_56 : decode cX3_isFound 56 = .ok (.iinc 4 1, 3) := by decide +kernel
theorem dX3_isFound_59 : decode cX3_isFound 59 = .ok (.goto (-54), 3) := by decide +kernel
theorem dX3_isFound_62 : decode cX3_isFound 62 = .ok (.iload_n 3, 1) := by decide +kernel
theorem dX3_isFound_63 : decode cX3_isFound 63 = .ok (.ireturn, 1) := by decide +kernel
set_option maxRecDepth 20000 in
theorem ggX3_anyBy_X3_isFound : GoodIn wsX3_anyBy wsX3_isFound := goodIn_r _ [6, 7, 8, 9, 10, 29, 30, 31, 32, 33, 34, 35, 36, 37, 38, 39, 40, 41, 42, 43, 44, 45, 46, 47, 48, 49, 50, 51, 52, 53, 54, 55, 56, 57] (by decide +kernel) (by decide +kernel)
set_option maxRecDepth 20000 in
theorem gX3_anyBy_X3_isFound : GoodIn wsX3_anyBy (wsV RX3 154 RX3 yX3_isFound wsX3_isFound) := goodIn_app (goodIn_of _ (by decide +kernel)) ggX3_anyBy_X3_isFound
set_option maxRecDepth 20000 in
theorem ggX3_anyBy_X3_firstWrong : GoodIn wsX3_anyBy wsX3_firstWrong := goodIn_r _ [14, 15, 16, 17, 5, 18, 19, 20, 21, 22, 23, 24, 25, 26, 27, 28, 29, 30, 31, 32, 33, 34, 35, 36, 37, 38, 39, 40, 41, 42, 43, 44, 45, 46, 47, 48, 49, 50, 51, 52, 53, 54, 55, 56, 57] (by decide +kernel) (by decide +kernel)
set_option maxRecDepth 20000 in
theorem gX3_anyBy_X3_firstWrong : GoodIn wsX3_anyBy (wsV RX3 103 RX3 yX3_firstWrong wsX3_firstWrong) := goodIn_app (goodIn_of _ (by decide +kernel)) ggX3_anyBy_X3_firstWrong
theorem dX3_anyBy_0 : decode cX3_anyBy 0 = .ok (.iconst 0, 1) := by decide +kernel
theorem dX3_anyBy_1 : decode cX3_anyBy 1 = .ok (.istore_n 3, 1) := by decide +kernel
theorem dX3_anyBy_2 : decode cX3_anyBy 2 = .ok (.iconst 0, 1) := by decide +kernel
theorem dX3_anyBy_3 : decode cX3_anyBy 3 = .ok (.istore 4, 2) := by decide +kernel
theorem dX3_anyBy_5 : decode cX3_anyBy 5 = .ok (.iload 4, 2) := by decide +kernel
theorem dX3_anyBy_7 : decode cX3_anyBy 7 = .ok (.sipush 128, 3) := by decide +kernel
theorem dX3_anyBy_10 : decode cX3_anyBy 10 = .ok (.if_icmp .ge 48, 3) := by decide +kernel
theorem dX3_anyBy_13 : decode cX3_anyBy 13 = .ok (.iload_n 3, 1) := by decide +kernel
theorem dX3_anyBy_14 : decode cX3_anyBy 14 = .ok (.ifCond .ne 44, 3) := by decide +kernel
theorem dX3_anyBy_17 : decode cX3_anyBy 17 = .ok (.aload_n 0, 1) := by decide +kernel
theorem dX3_anyBy_18 : decode cX3_anyBy 18 = .ok (.iload_n 1, 1) := by decide +kernel
theorem dX3_anyBy_19 : decode cX3_anyBy 19 = .ok (.iload 4, 2) := by decide +kernel
theorem dX3_anyBy_21 : decode cX3_anyBy 21 = .ok (.invokevirtual 154, 3) := by decide +kernel
theorem dX3_anyBy_24 : decode cX3_anyBy 24 = .ok (.ifCond .eq 26, 3) := by decide +kernel
theorem dX3_anyBy_27 : decode cX3_anyBy 27 = .ok (.aload_n 0, 1) := by decide +kernel
theorem dX3_anyBy_28 : decode cX3_anyBy 28 = .ok (.iload_n 1, 1) := by decide +kernel
theorem dX3_anyBy_29 : decode cX3_anyBy 29 = .ok (.iload 4, 2) := by decide +kernel
theorem dX3_anyBy_31 : decode cX3_anyBy 31 = .ok (.iload_n 2, 1) := by decide +kernel
theorem dX3_anyBy_32 : decode cX3_anyBy 32 = .ok (.aload_n 0, 1) := by decide +kernel
theorem dX3_anyBy_33 : decode cX3_anyBy 33 = .ok (.getfield 13, 3) := by decide +kernel
theorem dX3_anyBy_36 : decode cX3_anyBy 36 = .ok (.iload_n 1, 1) := by decide +kernel
theorem dX3_anyBy_37 : decode cX3_anyBy 37 = .ok (.iaload, 1) := by decide +kernel
theorem dX3_anyBy_38 : decode cX3_anyBy 38 = .ok (.invokevirtual 103, 3) := by decide +kernel
theorem dX3_anyBy_41 : decode cX3_anyBy 41 = .ok (.bipush 7, 2) := by decide +kernel
theorem dX3_anyBy_43 : decode cX3_anyBy 43 = .ok (.if_icmp .ne 7, 3) := by decide +kernel
theorem dX3_anyBy_46 : decode cX3_anyBy 46 = .ok (.iconst 1, 1) := by decide +kernel
theorem dX3_anyBy_47 : decode cX3_anyBy 47 = .ok (.goto 4, 3) := by decide +kernel
theorem dX3_anyBy_50 : decode cX3_anyBy 50 = .ok (.iconst 0, 1) := by decide +kernel
theorem dX3_anyBy_51 : decode cX3_anyBy 51 = .ok (.istore_n 3, 1) := by decide +kernel
theorem dX3_anyBy_52 : decode cX3_anyBy 52 = .ok (.iinc 4 1, 3) := by decide +kernel
theorem dX3_anyBy_55 : decode cX3_anyBy 55 = .ok (.goto (-50), 3) := by decide +kernel
theorem dX3_anyBy_58 : decode cX3_anyBy 58 = .ok (.iload_n 3, 1) := by decide +kernel
theorem dX3_anyBy_59 : decode cX3_anyBy 59 = .ok (.ireturn, 1) := by decide +kernel
set_option maxRecDepth 20000 in
theorem ggX3_delaysOf_X3_anyBy : GoodIn wsX3_delaysOf wsX3_anyBy := goodIn_r _ [5, 6, 7, 8, 9, 4, 10, 11, 12, 13, 14, 15, 16, 17, 18, 19, 20, 21, 22, 23, 24, 25, 26, 27, 28, 29, 30, 31, 32, 33, 34, 35, 36, 37, 38, 39, 40, 41, 42, 43, 44, 45, 46, 47, 48, 49, 50, 51, 52, 53, 54, 55, 56, 57, 58, 59, 60, 61] (by decide +kernel) (by decide +kernel)
set_option maxRecDepth 20000 in
theorem gX3_delaysOf_X3_anyBy : GoodIn wsX3_delaysOf (wsV RX3 157 RX3 yX3_anyBy wsX3_anyBy) := goodIn_app (goodIn_of _ (by decide +kernel)) ggX3_delaysOf_X3_anyBy
theorem dX3_delaysOf_0 : decode cX3_delaysOf 0 = .ok (.iconst 0, 1) := by decide +kernel
theorem dX3_delaysOf_1 : decode cX3_delaysOf 1 = .ok (.istore_n 2, 1) := by decide +kernel
theorem dX3_delaysOf_2 : decode cX3_delaysOf 2 = .ok (.bipush (-3), 2) := by decide +kernel
theorem dX3_delaysOf_4 : decode cX3_delaysOf 4 = .ok (.istore_n 3, 1) := by decide +kernel
theorem dX3_delaysOf_5 : decode cX3_delaysOf 5 = .ok (.iload_n 3, 1) := by decide +kernel
theorem dX3_delaysOf_6 : decode cX3_delaysOf 6 = .ok (.iconst 4, 1) := by decide +kernel
theorem dX3_delaysOf_7 : decode cX3_delaysOf 7 = .ok (.if_icmp .gt 31, 3) := by decide +kernel
theorem dX3_delaysOf_10 : decode cX3_delaysOf 10 = .ok (.iload_n 2, 1) := by decide +kernel
theorem dX3_delaysOf_11 : decode cX3_delaysOf 11 = .ok (.aload_n 0, 1) := by decide +kernel
theorem dX3_delaysOf_12 : decode cX3_delaysOf 12 = .ok (.iload_n 1, 1) := by decide +kernel
theorem dX3_delaysOf_13 : decode cX3_delaysOf 13 = .ok (.iload_n 3, 1) := by decide +kernel
theorem dX3_delaysOf_14 : decode cX3_delaysOf 14 = .ok (.invokevirtual 157, 3) := by decide +kernel
theorem dX3_delaysOf_17 : decode cX3_delaysOf 17 = .ok (.ifCond .eq 12, 3) := by decide +kernel
theorem dX3_delaysOf_20 : decode cX3_delaysOf 20 = .ok (.iconst 1, 1) := by decide +kernel
theorem dX3_delaysOf_21 : decode cX3_delaysOf 21 = .ok (.iload_n 3, 1) := by decide +kernel
theorem dX3_delaysOf_22 : decode cX3_delaysOf 22 = .ok (.bipush (-3), 2) := by decide +kernel
theorem dX3_delaysOf_24 : decode cX3_delaysOf 24 = .ok (.isub, 1) := by decide +kernel
theorem dX3_delaysOf_25 : decode cX3_delaysOf 25 = .ok (.ishl, 1) := by decide +kernel
theorem dX3_delaysOf_26 : decode cX3_delaysOf 26 = .ok (.goto 4, 3) := by decide +kernel
theorem dX3_delaysOf_29 : decode cX3_delaysOf 29 = .ok (.iconst 0, 1) := by decide +kernel
theorem dX3_delaysOf_30 : decode cX3_delaysOf 30 = .ok (.ior, 1) := by decide +kernel
theorem dX3_delaysOf_31 : decode cX3_delaysOf 31 = .ok (.istore_n 2, 1) := by decide +kernel
theorem dX3_delaysOf_32 : decode cX3_delaysOf 32 = .ok (.iinc 3 1, 3) := by decide +kernel
theorem dX3_delaysOf_35 : decode cX3_delaysOf 35 = .ok (.goto (-30), 3) := by decide +kernel
theorem dX3_delaysOf_38 : decode cX3_delaysOf 38 = .ok (.iload_n 2, 1) := by decide +kernel
theorem dX3_delaysOf_39 : decode cX3_delaysOf 39 = .ok (.ireturn, 1) := by decide +kernel
set_option maxRecDepth 20000 in
theorem ggX3_delays_X3_isDrawer : GoodIn wsX3_delays wsX3_isDrawer := goodIn_r _ [5, 6, 7, 8, 4, 9, 45, 46, 47, 48, 49, 50, 51, 52, 53, 54, 55, 56, 57, 58, 59, 60, 61, 62, 63, 64, 65, 66, 67, 68, 69, 70, 71, 72, 73] (by decide +kernel) (by decide +kernel)
set_option maxRecDepth 20000 in
theorem gX3_delays_X3_isDrawer : GoodIn wsX3_delays (wsV RX3 122 RX3 yX3_isDrawer wsX3_isDrawer) := goodIn_app (goodIn_of _ (by decide +kernel)) ggX3_delays_X3_isDrawer
set_option maxRecDepth 20000 in
theorem ggX3_delays_X3_delaysOf : GoodIn wsX3_delays wsX3_delaysOf := goodIn_r _ [13, 14, 15, 16, 4, 17, 18, 19, 20, 21, 22, 23, 24, 25, 26, 27, 28, 29, 30, 31, 32, 33, 34, 35, 36, 37, 38, 39, 40, 41, 42, 43, 44, 45, 46, 47, 48, 49, 50, 51, 52, 53, 54, 55, 56, 57, 58, 59, 60, 61, 62, 63, 64, 65, 66, 67, 68, 69, 70, 71, 72, 73] (by decide +kernel) (by decide +kernel)
set_option maxRecDepth 20000 in
theorem gX3_delays_X3_delaysOf : GoodIn wsX3_delays (wsV RX3 160 RX3 yX3_delaysOf wsX3_delaysOf) := goodIn_app (goodIn_of _ (by decide +kernel)) ggX3_delays_X3_delaysOf
theorem dX3_delays_0 : decode cX3_delays 0 = .ok (.aload_n 0, 1) := by decide +kernel
theorem dX3_delays_1 : decode cX3_delays 1 = .ok (.iload_n 1, 1) := by decide +kernel
theorem dX3_delays_2 : decode cX3_delays 2 = .ok (.invokevirtual 122, 3) := by decide +kernel
theorem dX3_delays_5 : decode cX3_delays 5 = .ok (.ifCond .eq 11, 3) := by decide +kernel
theorem dX3_delays_8 : decode cX3_delays 8 = .ok (.aload_n 0, 1) := by decide +kernel
theorem dX3_delays_9 : decode cX3_delays 9 = .ok (.iload_n 1, 1) := by decide +kernel
theorem dX3_delays_10 : decode cX3_delays 10 = .ok (.invokevirtual 160, 3) := by decide +kernel
theorem dX3_delays_13 : decode cX3_delays 13 = .ok (.goto 5, 3) := by decide +kernel
theorem dX3_delays_16 : decode cX3_delays 16 = .ok (.bipush (-101), 2) := by decide +kernel
theorem dX3_delays_18 : decode cX3_delays 18 = .ok (.ireturn, 1) := by decide +kernel
set_option maxRecDepth 20000 in
theorem ggX3_whoNow_X3_aheadOf : GoodIn wsX3_whoNow wsX3_aheadOf := goodIn_r _ [8, 9, 10, 39, 40, 41, 42, 43, 44, 45, 46, 47, 48, 49, 50, 51, 52, 53, 54, 55, 56, 57, 58, 59, 60, 61, 62, 63, 64, 65, 66, 67] (by decide +kernel) (by decide +kernel)
set_option maxRecDepth 20000 in
theorem gX3_whoNow_X3_aheadOf : GoodIn wsX3_whoNow (wsV RX3 100 RX3 yX3_aheadOf wsX3_aheadOf) := goodIn_app (goodIn_of _ (by decide +kernel)) ggX3_whoNow_X3_aheadOf
set_option maxRecDepth 20000 in
theorem ggX3_whoNow_X3_anyBy : GoodIn wsX3_whoNow wsX3_anyBy := goodIn_r _ [14, 15, 16, 17, 18, 7, 19, 20, 21, 22, 23, 24, 25, 26, 27, 28, 29, 30, 31, 32, 3, 1, 2, 33, 34, 35, 36, 37, 38, 39, 40, 41, 42, 43, 44, 45, 46, 47, 48, 49, 50, 51, 52, 53, 54, 55, 56, 57, 58, 59, 60, 61, 62, 63, 64, 65, 66, 67] (by decide +kernel) (by decide +kernel)
set_option maxRecDepth 20000 in
theorem gX3_whoNow_X3_anyBy : GoodIn wsX3_whoNow (wsV RX3 157 RX3 yX3_anyBy wsX3_anyBy) := goodIn_app (goodIn_of _ (by decide +kernel)) ggX3_whoNow_X3_anyBy
theorem dX3_whoNow_0 : decode cX3_whoNow 0 = .ok (.aload_n 0, 1) := by decide +kernel
theorem dX3_whoNow_1 : decode cX3_whoNow 1 = .ok (.getfield 16, 3) := by decide +kernel
theorem dX3_whoNow_4 : decode cX3_whoNow 4 = .ok (.iload_n 1, 1) := by decide +kernel
theorem dX3_whoNow_5 : decode cX3_whoNow 5 = .ok (.iaload, 1) := by decide +kernel
theorem dX3_whoNow_6 : decode cX3_whoNow 6 = .ok (.istore_n 3, 1) := by decide +kernel
theorem dX3_whoNow_7 : decode cX3_whoNow 7 = .ok (.aload_n 0, 1) := by decide +kernel
theorem dX3_whoNow_8 : decode cX3_whoNow 8 = .ok (.getfield 22, 3) := by decide +kernel
theorem dX3_whoNow_11 : decode cX3_whoNow 11 = .ok (.iload_n 1, 1) := by decide +kernel
theorem dX3_whoNow_12 : decode cX3_whoNow 12 = .ok (.iaload, 1) := by decide +kernel
theorem dX3_whoNow_13 : decode cX3_whoNow 13 = .ok (.istore 4, 2) := by decide +kernel
theorem dX3_whoNow_15 : decode cX3_whoNow 15 = .ok (.iconst 0, 1) := by decide +kernel
theorem dX3_whoNow_16 : decode cX3_whoNow 16 = .ok (.istore 5, 2) := by decide +kernel
theorem dX3_whoNow_18 : decode cX3_whoNow 18 = .ok (.iconst (-1), 1) := by decide +kernel
theorem dX3_whoNow_19 : decode cX3_whoNow 19 = .ok (.istore 6, 2) := by decide +kernel
theorem dX3_whoNow_21 : decode cX3_whoNow 21 = .ok (.bipush 34, 2) := by decide +kernel
theorem dX3_whoNow_23 : decode cX3_whoNow 23 = .ok (.istore 7, 2) := by decide +kernel
theorem dX3_whoNow_25 : decode cX3_whoNow 25 = .ok (.iload 7, 2) := by decide +kernel
theorem dX3_whoNow_27 : decode cX3_whoNow 27 = .ok (.ifCond .lt 82, 3) := by decide +kernel
theorem dX3_whoNow_30 : decode cX3_whoNow 30 = .ok (.aload_n 0, 1) := by decide +kernel
theorem dX3_whoNow_31 : decode cX3_whoNow 31 = .ok (.getfield 16, 3) := by decide +kernel
theorem dX3_whoNow_34 : decode cX3_whoNow 34 = .ok (.iload_n 1, 1) := by decide +kernel
theorem dX3_whoNow_35 : decode cX3_whoNow 35 = .ok (.iload 7, 2) := by decide +kernel
theorem dX3_whoNow_37 : decode cX3_whoNow 37 = .ok (.bipush 7, 2) := by decide +kernel
theorem dX3_whoNow_39 : decode cX3_whoNow 39 = .ok (.idiv, 1) := by decide +kernel
theorem dX3_whoNow_40 : decode cX3_whoNow 40 = .ok (.iastore, 1) := by decide +kernel
theorem dX3_whoNow_41 : decode cX3_whoNow 41 = .ok (.aload_n 0, 1) := by decide +kernel
theorem dX3_whoNow_42 : decode cX3_whoNow 42 = .ok (.getfield 22, 3) := by decide +kernel
theorem dX3_whoNow_45 : decode cX3_whoNow 45 = .ok (.iload_n 1, 1) := by decide +kernel
theorem dX3_whoNow_46 : decode cX3_whoNow 46 = .ok (.iload 7, 2) := by decide +kernel
theorem dX3_whoNow_48 : decode cX3_whoNow 48 = .ok (.bipush 7, 2) := by decide +kernel
theorem dX3_whoNow_50 : decode cX3_whoNow 50 = .ok (.irem, 1) := by decide +kernel
theorem dX3_whoNow_51 : decode cX3_whoNow 51 = .ok (.iastore, 1) := by decide +kernel
theorem dX3_whoNow_52 : decode cX3_whoNow 52 = .ok (.aload_n 0, 1) := by decide +kernel
theorem dX3_whoNow_53 : decode cX3_whoNow 53 = .ok (.aload_n 0, 1) := by decide +kernel
theorem dX3_whoNow_54 : decode cX3_whoNow 54 = .ok (.getfield 19, 3) := by decide +kernel
theorem dX3_whoNow_57 : decode cX3_whoNow 57 = .ok (.iload_n 1, 1) := by decide +kernel
theorem dX3_whoNow_58 : decode cX3_whoNow 58 = .ok (.iaload, 1) := by decide +kernel
theorem dX3_whoNow_59 : decode cX3_whoNow 59 = .ok (.aload_n 0, 1) := by decide +kernel
theorem dX3_whoNow_60 : decode cX3_whoNow 60 = .ok (.aload_n 0, 1) := by decide +kernel
theorem dX3_whoNow_61 : decode cX3_whoNow 61 = .ok (.getfield 19, 3) := by decide +kernel
theorem dX3_whoNow_64 : decode cX3_whoNow 64 = .ok (.iload_n 1, 1) := by decide +kernel
theorem dX3_whoNow_65 : decode cX3_whoNow 65 = .ok (.iaload, 1) := by decide +kernel
theorem dX3_whoNow_66 : decode cX3_whoNow 66 = .ok (.invokevirtual 100, 3) := by decide +kernel
theorem dX3_whoNow_69 : decode cX3_whoNow 69 = .ok (.invokevirtual 157, 3) := by decide +kernel
theorem dX3_whoNow_72 : decode cX3_whoNow 72 = .ok (.istore 8, 2) := by decide +kernel
theorem dX3_whoNow_74 : decode cX3_whoNow 74 = .ok (.iload 5, 2) := by decide +kernel
theorem dX3_whoNow_76 : decode cX3_whoNow 76 = .ok (.iload 8, 2) := by decide +kernel
theorem dX3_whoNow_78 : decode cX3_whoNow 78 = .ok (.ifCond .eq 7, 3) := by decide +kernel
theorem dX3_whoNow_81 : decode cX3_whoNow 81 = .ok (.iconst 1, 1) := by decide +kernel
theorem dX3_whoNow_82 : decode cX3_whoNow 82 = .ok (.goto 4, 3) := by decide +kernel
theorem dX3_whoNow_85 : decode cX3_whoNow 85 = .ok (.iconst 0, 1) := by decide +kernel
theorem dX3_whoNow_86 : decode cX3_whoNow 86 = .ok (.iadd, 1) := by decide +kernel
theorem dX3_whoNow_87 : decode cX3_whoNow 87 = .ok (.istore 5, 2) := by decide +kernel
theorem dX3_whoNow_89 : decode cX3_whoNow 89 = .ok (.iload 8, 2) := by decide +kernel
theorem dX3_whoNow_91 : decode cX3_whoNow 91 = .ok (.ifCond .eq 8, 3) := by decide +kernel
theorem dX3_whoNow_94 : decode cX3_whoNow 94 = .ok (.iload 7, 2) := by decide +kernel
theorem dX3_whoNow_96 : decode cX3_whoNow 96 = .ok (.goto 5, 3) := by decide +kernel
theorem dX3_whoNow_99 : decode cX3_whoNow 99 = .ok (.iload 6, 2) := by decide +kernel
theorem dX3_whoNow_101 : decode cX3_whoNow 101 = .ok (.istore 6, 2) := by decide +kernel
theorem dX3_whoNow_103 : decode cX3_whoNow 103 = .ok (.iinc 7 (-1), 3) := by decide +kernel
theorem dX3_whoNow_106 : decode cX3_whoNow 106 = .ok (.goto (-81), 3) := by decide +kernel
theorem dX3_whoNow_109 : decode cX3_whoNow 109 = .ok (.aload_n 0, 1) := by decide +kernel
theorem dX3_whoNow_110 : decode cX3_whoNow 110 = .ok (.getfield 16, 3) := by decide +kernel
theorem dX3_whoNow_113 : decode cX3_whoNow 113 = .ok (.iload_n 1, 1) := by decide +kernel
theorem dX3_whoNow_114 : decode cX3_whoNow 114 = .ok (.iload_n 3, 1) := by decide +kernel
theorem dX3_whoNow_115 : decode cX3_whoNow 115 = .ok (.iastore, 1) := by decide +kernel
theorem dX3_whoNow_116 : decode cX3_whoNow 116 = .ok (.aload_n 0, 1) := by decide +kernel
theorem dX3_whoNow_117 : decode cX3_whoNow 117 = .ok (.getfield 22, 3) := by decide +kernel
theorem dX3_whoNow_120 : decode cX3_whoNow 120 = .ok (.iload_n 1, 1) := by decide +kernel
theorem dX3_whoNow_121 : decode cX3_whoNow 121 = .ok (.iload 4, 2) := by decide +kernel
theorem dX3_whoNow_123 : decode cX3_whoNow 123 = .ok (.iastore, 1) := by decide +kernel
theorem dX3_whoNow_124 : decode cX3_whoNow 124 = .ok (.iload_n 2, 1) := by decide +kernel
theorem dX3_whoNow_125 : decode cX3_whoNow 125 = .ok (.ifCond .ne 8, 3) := by decide +kernel
theorem dX3_whoNow_128 : decode cX3_whoNow 128 = .ok (.iload 5, 2) := by decide +kernel
theorem dX3_whoNow_130 : decode cX3_whoNow 130 = .ok (.goto 5, 3) := by decide +kernel
theorem dX3_whoNow_133 : decode cX3_whoNow 133 = .ok (.iload 6, 2) := by decide +kernel
theorem dX3_whoNow_135 : decode cX3_whoNow 135 = .ok (.ireturn, 1) := by decide +kernel
set_option maxRecDepth 20000 in
theorem ggX3_who_X3_isPerson : GoodIn wsX3_who wsX3_isPerson := goodIn_r _ [5, 6, 7, 8, 4, 9, 50, 51, 52, 53, 54, 55, 56, 57, 58, 59, 60, 61, 62, 63, 64, 65, 66, 67, 68, 69, 70, 71, 72, 73, 74, 75, 76, 77, 78] (by decide +kernel) (by decide +kernel)
set_option maxRecDepth 20000 in
theorem gX3_who_X3_isPerson : GoodIn wsX3_who (wsV RX3 132 RX3 yX3_isPerson wsX3_isPerson) := goodIn_app (goodIn_of _ (by decide +kernel)) ggX3_who_X3_isPerson
set_option maxRecDepth 20000 in
theorem ggX3_who_X3_within : GoodIn wsX3_who wsX3_within := goodIn_r _ [9] (by decide +kernel) (by decide +kernel)
set_option maxRecDepth 20000 in
theorem gX3_who_X3_within : GoodIn wsX3_who (va_wsS RX3 56 yX3_within wsX3_within) := goodIn_app (goodIn_of _ (by decide +kernel)) ggX3_who_X3_within
set_option maxRecDepth 20000 in
theorem ggX3_who_X3_whoNow : GoodIn wsX3_who wsX3_whoNow := goodIn_r _ [13, 14, 15, 16, 17, 18, 19, 4, 20, 21, 22, 23, 24, 25, 26, 27, 28, 29, 30, 31, 32, 33, 34, 35, 36, 37, 38, 39, 40, 41, 42, 43, 6, 44, 45, 46, 47, 48, 49, 50, 51, 52, 53, 54, 55, 56, 57, 58, 59, 60, 61, 62, 63, 64, 65, 66, 67, 68, 69, 70, 71, 72, 73, 74, 75, 76, 77, 78] (by decide +kernel) (by decide +kernel)
set_option maxRecDepth 20000 in
theorem gX3_who_X3_whoNow : GoodIn wsX3_who (wsV RX3 163 RX3 yX3_whoNow wsX3_whoNow) := goodIn_app (goodIn_of _ (by decide +kernel)) ggX3_who_X3_whoNow
theorem dX3_who_0 : decode cX3_who 0 = .ok (.aload_n 0, 1) := by decide +kernel
theorem dX3_who_1 : decode cX3_who 1 = .ok (.iload_n 1, 1) := by decide +kernel
theorem dX3_who_2 : decode cX3_who 2 = .ok (.invokevirtual 132, 3) := by decide +kernel
theorem dX3_who_5 : decode cX3_who 5 = .ok (.ifCond .ne 6, 3) := by decide +kernel
theorem dX3_who_8 : decode cX3_who 8 = .ok (.bipush (-101), 2) := by decide +kernel
theorem dX3_who_10 : decode cX3_who 10 = .ok (.ireturn, 1) := by decide +kernel
theorem dX3_who_11 : decode cX3_who 11 = .ok (.iload_n 2, 1) := by decide +kernel
theorem dX3_who_12 : decode cX3_who 12 = .ok (.iconst 0, 1) := by decide +kernel
theorem dX3_who_13 : decode cX3_who 13 = .ok (.iconst 1, 1) := by decide +kernel
theorem dX3_who_14 : decode cX3_who 14 = .ok (.invokestatic 56, 3) := by decide +kernel
theorem dX3_who_17 : decode cX3_who 17 = .ok (.ifCond .eq 12, 3) := by decide +kernel
theorem dX3_who_20 : decode cX3_who 20 = .ok (.aload_n 0, 1) := by decide +kernel
theorem dX3_who_21 : decode cX3_who 21 = .ok (.iload_n 1, 1) := by decide +kernel
theorem dX3_who_22 : decode cX3_who 22 = .ok (.iload_n 2, 1) := by decide +kernel
theorem dX3_who_23 : decode cX3_who 23 = .ok (.invokevirtual 163, 3) := by decide +kernel
theorem dX3_who_26 : decode cX3_who 26 = .ok (.goto 5, 3) := by decide +kernel
theorem dX3_who_29 : decode cX3_who 29 = .ok (.bipush (-102), 2) := by decide +kernel
theorem dX3_who_31 : decode cX3_who 31 = .ok (.ireturn, 1) := by decide +kernel
theorem dX3_draw_0 : decode cX3_draw 0 = .ok (.aload_n 0, 1) := by decide +kernel
theorem dX3_draw_1 : decode cX3_draw 1 = .ok (.ldc2_w 166, 3) := by decide +kernel
theorem dX3_draw_4 : decode cX3_draw 4 = .ok (.aload_n 0, 1) := by decide +kernel
theorem dX3_draw_5 : decode cX3_draw 5 = .ok (.getfield 168, 3) := by decide +kernel
theorem dX3_draw_8 : decode cX3_draw 8 = .ok (.lmul, 1) := by decide +kernel
theorem dX3_draw_9 : decode cX3_draw 9 = .ok (.ldc2_w 172, 3) := by decide +kernel
theorem dX3_draw_12 : decode cX3_draw 12 = .ok (.ladd, 1) := by decide +kernel
theorem dX3_draw_13 : decode cX3_draw 13 = .ok (.ldc2_w 174, 3) := by decide +kernel
theorem dX3_draw_16 : decode cX3_draw 16 = .ok (.land, 1) := by decide +kernel
theorem dX3_draw_17 : decode cX3_draw 17 = .ok (.putfield 168, 3) := by decide +kernel
theorem dX3_draw_20 : decode cX3_draw 20 = .ok (.aload_n 0, 1) := by decide +kernel
theorem dX3_draw_21 : decode cX3_draw 21 = .ok (.getfield 168, 3) := by decide +kernel
theorem dX3_draw_24 : decode cX3_draw 24 = .ok (.ldc2_w 176, 3) := by decide +kernel
theorem dX3_draw_27 : decode cX3_draw 27 = .ok (.ldiv, 1) := by decide +kernel
theorem dX3_draw_28 : decode cX3_draw 28 = .ok (.iload_n 1, 1) := by decide +kernel
theorem dX3_draw_29 : decode cX3_draw 29 = .ok (.i2l, 1) := by decide +kernel
theorem dX3_draw_30 : decode cX3_draw 30 = .ok (.lrem, 1) := by decide +kernel
theorem dX3_draw_31 : decode cX3_draw 31 = .ok (.l2i, 1) := by decide +kernel
theorem dX3_draw_32 : decode cX3_draw 32 = .ok (.ireturn, 1) := by decide +kernel
set_option maxRecDepth 20000 in
theorem ggX3_anyLaid_X3_aheadOf : GoodIn wsX3_anyLaid wsX3_aheadOf := goodIn_r _ [5, 6, 7, 26, 27, 28, 29, 30, 31, 32, 33, 34, 35, 36, 37, 38, 39, 40, 41, 42, 43, 44, 45, 46, 47, 48, 49, 50, 51, 52, 53, 54] (by decide +kernel) (by decide +kernel)
set_option maxRecDepth 20000 in
theorem gX3_anyLaid_X3_aheadOf : GoodIn wsX3_anyLaid (wsV RX3 100 RX3 yX3_aheadOf wsX3_aheadOf) := goodIn_app (goodIn_of _ (by decide +kernel)) ggX3_anyLaid_X3_aheadOf
set_option maxRecDepth 20000 in
theorem ggX3_anyLaid_X3_firstWrong : GoodIn wsX3_anyLaid wsX3_firstWrong := goodIn_r _ [11, 12, 13, 14, 4, 15, 16, 17, 18, 19, 20, 21, 22, 23, 24, 25, 26, 27, 28, 29, 30, 31, 32, 33, 34, 35, 36, 37, 38, 39, 40, 41, 42, 43, 44, 45, 46, 47, 48, 49, 50, 51, 52, 53, 54] (by decide +kernel) (by decide +kernel)
set_option maxRecDepth 20000 in
theorem gX3_anyLaid_X3_firstWrong : GoodIn wsX3_anyLaid (wsV RX3 103 RX3 yX3_firstWrong wsX3_firstWrong) := goodIn_app (goodIn_of _ (by decide +kernel)) ggX3_anyLaid_X3_firstWrong
theorem dX3_anyLaid_0 : decode cX3_anyLaid 0 = .ok (.iconst 0, 1) := by decide +kernel
theorem dX3_anyLaid_1 : decode cX3_anyLaid 1 = .ok (.istore_n 3, 1) := by decide +kernel
theorem dX3_anyLaid_2 : decode cX3_anyLaid 2 = .ok (.iconst 0, 1) := by decide +kernel
theorem dX3_anyLaid_3 : decode cX3_anyLaid 3 = .ok (.istore 4, 2) := by decide +kernel
theorem dX3_anyLaid_5 : decode cX3_anyLaid 5 = .ok (.iload 4, 2) := by decide +kernel
theorem dX3_anyLaid_7 : decode cX3_anyLaid 7 = .ok (.sipush 128, 3) := by decide +kernel
theorem dX3_anyLaid_10 : decode cX3_anyLaid 10 = .ok (.if_icmp .ge 37, 3) := by decide +kernel
theorem dX3_anyLaid_13 : decode cX3_anyLaid 13 = .ok (.iload_n 3, 1) := by decide +kernel
theorem dX3_anyLaid_14 : decode cX3_anyLaid 14 = .ok (.ifCond .ne 33, 3) := by decide +kernel
theorem dX3_anyLaid_17 : decode cX3_anyLaid 17 = .ok (.aload_n 0, 1) := by decide +kernel
theorem dX3_anyLaid_18 : decode cX3_anyLaid 18 = .ok (.iload_n 1, 1) := by decide +kernel
theorem dX3_anyLaid_19 : decode cX3_anyLaid 19 = .ok (.iload 4, 2) := by decide +kernel
theorem dX3_anyLaid_21 : decode cX3_anyLaid 21 = .ok (.aload_n 0, 1) := by decide +kernel
theorem dX3_anyLaid_22 : decode cX3_anyLaid 22 = .ok (.iload_n 1, 1) := by decide +kernel
theorem dX3_anyLaid_23 : decode cX3_anyLaid 23 = .ok (.invokevirtual 100, 3) := by decide +kernel
theorem dX3_anyLaid_26 : decode cX3_anyLaid 26 = .ok (.iload_n 2, 1) := by decide +kernel
theorem dX3_anyLaid_27 : decode cX3_anyLaid 27 = .ok (.invokevirtual 103, 3) := by decide +kernel
theorem dX3_anyLaid_30 : decode cX3_anyLaid 30 = .ok (.bipush 7, 2) := by decide +kernel
theorem dX3_anyLaid_32 : decode cX3_anyLaid 32 = .ok (.if_icmp .ne 7, 3) := by decide +kernel
theorem dX3_anyLaid_35 : decode cX3_anyLaid 35 = .ok (.iconst 1, 1) := by decide +kernel
theorem dX3_anyLaid_36 : decode cX3_anyLaid 36 = .ok (.goto 4, 3) := by decide +kernel
theorem dX3_anyLaid_39 : decode cX3_anyLaid 39 = .ok (.iconst 0, 1) := by decide +kernel
theorem dX3_anyLaid_40 : decode cX3_anyLaid 40 = .ok (.istore_n 3, 1) := by decide +kernel
theorem dX3_anyLaid_41 : decode cX3_anyLaid 41 = .ok (.iinc 4 1, 3) := by decide +kernel
theorem dX3_anyLaid_44 : decode cX3_anyLaid 44 = .ok (.goto (-39), 3) := by decide +kernel
theorem dX3_anyLaid_47 : decode cX3_anyLaid 47 = .ok (.iload_n 3, 1) := by decide +kernel
theorem dX3_anyLaid_48 : decode cX3_anyLaid 48 = .ok (.ireturn, 1) := by decide +kernel
set_option maxRecDepth 20000 in
theorem ggX3_weeksNow_X3_draw : GoodIn wsX3_weeksNow wsX3_draw := goodIn_r _ [6, 7, 1, 8, 9, 10, 39, 40, 41, 42, 43, 44, 45, 46, 47, 48, 49, 50, 51, 52, 53, 54, 55, 56, 57, 58, 59, 60, 61, 62, 63, 64, 65, 66, 67] (by decide +kernel) (by decide +kernel)
set_option maxRecDepth 20000 in
theorem gX3_weeksNow_X3_draw : GoodIn wsX3_weeksNow (wsV RX3 178 RX3 yX3_draw wsX3_draw) := goodIn_app (goodIn_of _ (by decide +kernel)) ggX3_weeksNow_X3_draw
set_option maxRecDepth 20000 in
theorem ggX3_weeksNow_X3_anyLaid : GoodIn wsX3_weeksNow wsX3_anyLaid := goodIn_r _ [14, 15, 16, 17, 5, 18, 19, 20, 21, 22, 23, 24, 25, 26, 27, 28, 29, 30, 31, 32, 33, 34, 35, 36, 37, 38, 39, 40, 41, 42, 43, 44, 45, 46, 47, 48, 49, 50, 51, 52, 53, 54, 55, 56, 57, 58, 59, 60, 61, 62, 63, 64, 65, 66, 67] (by decide +kernel) (by decide +kernel)
set_option maxRecDepth 20000 in
theorem gX3_weeksNow_X3_anyLaid : GoodIn wsX3_weeksNow (wsV RX3 181 RX3 yX3_anyLaid wsX3_anyLaid) := goodIn_app (goodIn_of _ (by decide +kernel)) ggX3_weeksNow_X3_anyLaid
theorem dX3_weeksNow_0 : decode cX3_weeksNow 0 = .ok (.aload_n 0, 1) := by decide +kernel
theorem dX3_weeksNow_1 : decode cX3_weeksNow 1 = .ok (.iload_n 2, 1) := by decide +kernel
theorem dX3_weeksNow_2 : decode cX3_weeksNow 2 = .ok (.i2l, 1) := by decide +kernel
theorem dX3_weeksNow_3 : decode cX3_weeksNow 3 = .ok (.putfield 168, 3) := by decide +kernel
theorem dX3_weeksNow_6 : decode cX3_weeksNow 6 = .ok (.iconst 0, 1) := by decide +kernel
theorem dX3_weeksNow_7 : decode cX3_weeksNow 7 = .ok (.istore 4, 2) := by decide +kernel
theorem dX3_weeksNow_9 : decode cX3_weeksNow 9 = .ok (.iconst 0, 1) := by decide +kernel
theorem dX3_weeksNow_10 : decode cX3_weeksNow 10 = .ok (.istore 5, 2) := by decide +kernel
theorem dX3_weeksNow_12 : decode cX3_weeksNow 12 = .ok (.iload 5, 2) := by decide +kernel
theorem dX3_weeksNow_14 : decode cX3_weeksNow 14 = .ok (.iload_n 1, 1) := by decide +kernel
theorem dX3_weeksNow_15 : decode cX3_weeksNow 15 = .ok (.bipush 9, 2) := by decide +kernel
theorem dX3_weeksNow_17 : decode cX3_weeksNow 17 = .ok (.imul, 1) := by decide +kernel
theorem dX3_weeksNow_18 : decode cX3_weeksNow 18 = .ok (.if_icmp .ge 73, 3) := by decide +kernel
theorem dX3_weeksNow_21 : decode cX3_weeksNow 21 = .ok (.iconst 0, 1) := by decide +kernel
theorem dX3_weeksNow_22 : decode cX3_weeksNow 22 = .ok (.istore 6, 2) := by decide +kernel
theorem dX3_weeksNow_24 : decode cX3_weeksNow 24 = .ok (.iconst 0, 1) := by decide +kernel
theorem dX3_weeksNow_25 : decode cX3_weeksNow 25 = .ok (.istore 7, 2) := by decide +kernel
theorem dX3_weeksNow_27 : decode cX3_weeksNow 27 = .ok (.iload 7, 2) := by decide +kernel
theorem dX3_weeksNow_29 : decode cX3_weeksNow 29 = .ok (.bipush 7, 2) := by decide +kernel
theorem dX3_weeksNow_31 : decode cX3_weeksNow 31 = .ok (.if_icmp .ge 30, 3) := by decide +kernel
theorem dX3_weeksNow_34 : decode cX3_weeksNow 34 = .ok (.iload 6, 2) := by decide +kernel
theorem dX3_weeksNow_36 : decode cX3_weeksNow 36 = .ok (.aload_n 0, 1) := by decide +kernel
theorem dX3_weeksNow_37 : decode cX3_weeksNow 37 = .ok (.iconst 4, 1) := by decide +kernel
theorem dX3_weeksNow_38 : decode cX3_weeksNow 38 = .ok (.invokevirtual 178, 3) := by decide +kernel
theorem dX3_weeksNow_41 : decode cX3_weeksNow 41 = .ok (.ifCond .ne 10, 3) := by decide +kernel
theorem dX3_weeksNow_44 : decode cX3_weeksNow 44 = .ok (.iconst 1, 1) := by decide +kernel
theorem dX3_weeksNow_45 : decode cX3_weeksNow 45 = .ok (.iload 7, 2) := by decide +kernel
theorem dX3_weeksNow_47 : decode cX3_weeksNow 47 = .ok (.ishl, 1) := by decide +kernel
theorem dX3_weeksNow_48 : decode cX3_weeksNow 48 = .ok (.goto 4, 3) := by decide +kernel
theorem dX3_weeksNow_51 : decode cX3_weeksNow 51 = .ok (.iconst 0, 1) := by decide +kernel
theorem dX3_weeksNow_52 : decode cX3_weeksNow 52 = .ok (.ior, 1) := by decide +kernel
theorem dX3_weeksNow_53 : decode cX3_weeksNow 53 = .ok (.istore 6, 2) := by decide +kernel
theorem dX3_weeksNow_55 : decode cX3_weeksNow 55 = .ok (.iinc 7 1, 3) := by decide +kernel
theorem dX3_weeksNow_58 : decode cX3_weeksNow 58 = .ok (.goto (-31), 3) := by decide +kernel
theorem dX3_weeksNow_61 : decode cX3_weeksNow 61 = .ok (.iload 4, 2) := by decide +kernel
theorem dX3_weeksNow_63 : decode cX3_weeksNow 63 = .ok (.aload_n 0, 1) := by decide +kernel
theorem dX3_weeksNow_64 : decode cX3_weeksNow 64 = .ok (.iload 5, 2) := by decide +kernel
theorem dX3_weeksNow_66 : decode cX3_weeksNow 66 = .ok (.bipush 9, 2) := by decide +kernel
theorem dX3_weeksNow_68 : decode cX3_weeksNow 68 = .ok (.irem, 1) := by decide +kernel
theorem dX3_weeksNow_69 : decode cX3_weeksNow 69 = .ok (.iload 6, 2) := by decide +kernel
theorem dX3_weeksNow_71 : decode cX3_weeksNow 71 = .ok (.invokevirtual 181, 3) := by decide +kernel
theorem dX3_weeksNow_74 : decode cX3_weeksNow 74 = .ok (.ifCond .eq 7, 3) := by decide +kernel
theorem dX3_weeksNow_77 : decode cX3_weeksNow 77 = .ok (.iconst 0, 1) := by decide +kernel
theorem dX3_weeksNow_78 : decode cX3_weeksNow 78 = .ok (.goto 4, 3) := by decide +kernel
theorem dX3_weeksNow_81 : decode cX3_weeksNow 81 = .ok (.iconst 1, 1) := by decide +kernel
theorem dX3_weeksNow_82 : decode cX3_weeksNow 82 = .ok (.iadd, 1) := by decide +kernel
theorem dX3_weeksNow_83 : decode cX3_weeksNow 83 = .ok (.istore 4, 2) := by decide +kernel
theorem dX3_weeksNow_85 : decode cX3_weeksNow 85 = .ok (.iinc 5 1, 3) := by decide +kernel
theorem dX3_weeksNow_88 : decode cX3_weeksNow 88 = .ok (.goto (-76), 3) := by decide +kernel
theorem dX3_weeksNow_91 : decode cX3_weeksNow 91 = .ok (.iload_n 3, 1) := by decide +kernel
theorem dX3_weeksNow_92 : decode cX3_weeksNow 92 = .ok (.ifCond .ne 8, 3) := by decide +kernel
theorem dX3_weeksNow_95 : decode cX3_weeksNow 95 = .ok (.iload 4, 2) := by decide +kernel
theorem dX3_weeksNow_97 : decode cX3_weeksNow 97 = .ok (.goto 8, 3) := by decide +kernel
theorem dX3_weeksNow_100 : decode cX3_weeksNow 100 = .ok (.aload_n 0, 1) := by decide +kernel
theorem dX3_weeksNow_101 : decode cX3_weeksNow 101 = .ok (.getfield 168, 3) := by decide +kernel
theorem dX3_weeksNow_104 : decode cX3_weeksNow 104 = .ok (.l2i, 1) := by decide +kernel
theorem dX3_weeksNow_105 : decode cX3_weeksNow 105 = .ok (.ireturn, 1) := by decide +kernel
set_option maxRecDepth 20000 in
theorem ggX3_weeks_X3_within : GoodIn wsX3_weeks wsX3_within := goodIn_r _ [5] (by decide +kernel) (by decide +kernel)
set_option maxRecDepth 20000 in
theorem gX3_weeks_X3_within : GoodIn wsX3_weeks (va_wsS RX3 56 yX3_within wsX3_within) := goodIn_app (goodIn_of _ (by decide +kernel)) ggX3_weeks_X3_within
set_option maxRecDepth 20000 in
theorem ggX3_weeks_X3_weeksNow : GoodIn wsX3_weeks wsX3_weeksNow := goodIn_r _ [9, 10, 11, 12, 13, 4, 14, 15, 16, 17, 18, 19, 20, 21, 22, 23, 24, 25, 26, 27, 28, 29, 30, 31, 32, 33, 34, 35, 36, 37, 38, 39, 40, 41, 42, 43, 44, 45, 46, 47, 48, 49, 50, 51, 52, 53, 54, 55, 56, 57, 58, 59, 60, 61, 62, 63, 64, 65, 66, 67, 68, 69, 70, 71, 72, 73, 74, 75] (by decide +kernel) (by decide +kernel)
set_option maxRecDepth 20000 in
theorem gX3_weeks_X3_weeksNow : GoodIn wsX3_weeks (wsV RX3 184 RX3 yX3_weeksNow wsX3_weeksNow) := goodIn_app (goodIn_of _ (by decide +kernel)) ggX3_weeks_X3_weeksNow
theorem dX3_weeks_0 : decode cX3_weeks 0 = .ok (.iload_n 1, 1) := by decide +kernel
theorem dX3_weeks_1 : decode cX3_weeks 1 = .ok (.iconst 1, 1) := by decide +kernel
theorem dX3_weeks_2 : decode cX3_weeks 2 = .ok (.bipush 12, 2) := by decide +kernel
theorem dX3_weeks_4 : decode cX3_weeks 4 = .ok (.invokestatic 56, 3) := by decide +kernel
theorem dX3_weeks_7 : decode cX3_weeks 7 = .ok (.ifCond .eq 16, 3) := by decide +kernel
theorem dX3_weeks_10 : decode cX3_weeks 10 = .ok (.iload_n 2, 1) := by decide +kernel
theorem dX3_weeks_11 : decode cX3_weeks 11 = .ok (.ifCond .lt 12, 3) := by decide +kernel
theorem dX3_weeks_14 : decode cX3_weeks 14 = .ok (.iload_n 3, 1) := by decide +kernel
theorem dX3_weeks_15 : decode cX3_weeks 15 = .ok (.iconst 0, 1) := by decide +kernel
theorem dX3_weeks_16 : decode cX3_weeks 16 = .ok (.iconst 1, 1) := by decide +kernel
theorem dX3_weeks_17 : decode cX3_weeks 17 = .ok (.invokestatic 56, 3) := by decide +kernel
theorem dX3_weeks_20 : decode cX3_weeks 20 = .ok (.ifCond .ne 6, 3) := by decide +kernel
theorem dX3_weeks_23 : decode cX3_weeks 23 = .ok (.bipush (-102), 2) := by decide +kernel
theorem dX3_weeks_25 : decode cX3_weeks 25 = .ok (.ireturn, 1) := by decide +kernel
theorem dX3_weeks_26 : decode cX3_weeks 26 = .ok (.aload_n 0, 1) := by decide +kernel
theorem dX3_weeks_27 : decode cX3_weeks 27 = .ok (.getfield 75, 3) := by decide +kernel
theorem dX3_weeks_30 : decode cX3_weeks 30 = .ok (.ifCond .eq 13, 3) := by decide +kernel
theorem dX3_weeks_33 : decode cX3_weeks 33 = .ok (.aload_n 0, 1) := by decide +kernel
theorem dX3_weeks_34 : decode cX3_weeks 34 = .ok (.iload_n 1, 1) := by decide +kernel
theorem dX3_weeks_35 : decode cX3_weeks 35 = .ok (.iload_n 2, 1) := by decide +kernel
theorem dX3_weeks_36 : decode cX3_weeks 36 = .ok (.iload_n 3, 1) := by decide +kernel
theorem dX3_weeks_37 : decode cX3_weeks 37 = .ok (.invokevirtual 184, 3) := by decide +kernel
theorem dX3_weeks_40 : decode cX3_weeks 40 = .ok (.goto 5, 3) := by decide +kernel
theorem dX3_weeks_43 : decode cX3_weeks 43 = .ok (.bipush (-103), 2) := by decide +kernel
theorem dX3_weeks_45 : decode cX3_weeks 45 = .ok (.ireturn, 1) := by decide +kernel
theorem dX3_image_0 : decode cX3_image 0 = .ok (.aload_n 0, 1) := by decide +kernel
theorem dX3_image_1 : decode cX3_image 1 = .ok (.getfield 75, 3) := by decide +kernel
theorem dX3_image_4 : decode cX3_image 4 = .ok (.ifCond .ne 6, 3) := by decide +kernel
theorem dX3_image_7 : decode cX3_image 7 = .ok (.bipush (-103), 2) := by decide +kernel
theorem dX3_image_9 : decode cX3_image 9 = .ok (.ireturn, 1) := by decide +kernel
theorem dX3_image_10 : decode cX3_image 10 = .ok (.aload_n 0, 1) := by decide +kernel
theorem dX3_image_11 : decode cX3_image 11 = .ok (.iconst 1, 1) := by decide +kernel
theorem dX3_image_12 : decode cX3_image 12 = .ok (.putfield 187, 3) := by decide +kernel
theorem dX3_image_15 : decode cX3_image 15 = .ok (.aload_n 0, 1) := by decide +kernel
theorem dX3_image_16 : decode cX3_image 16 = .ok (.aload_n 0, 1) := by decide +kernel
theorem dX3_image_17 : decode cX3_image 17 = .ok (.getfield 79, 3) := by decide +kernel
theorem dX3_image_20 : decode cX3_image 20 = .ok (.putfield 190, 3) := by decide +kernel
theorem dX3_image_23 : decode cX3_image 23 = .ok (.aload_n 0, 1) := by decide +kernel
theorem dX3_image_24 : decode cX3_image 24 = .ok (.aload_n 0, 1) := by decide +kernel
theorem dX3_image_25 : decode cX3_image 25 = .ok (.getfield 72, 3) := by decide +kernel
theorem dX3_image_28 : decode cX3_image 28 = .ok (.putfield 193, 3) := by decide +kernel
theorem dX3_image_31 : decode cX3_image 31 = .ok (.aload_n 0, 1) := by decide +kernel
theorem dX3_image_32 : decode cX3_image 32 = .ok (.aload_n 0, 1) := by decide +kernel
theorem dX3_image_33 : decode cX3_image 33 = .ok (.getfield 82, 3) := by decide +kernel
theorem dX3_image_36 : decode cX3_image 36 = .ok (.putfield 196, 3) := by decide +kernel
theorem dX3_image_39 : decode cX3_image 39 = .ok (.aload_n 0, 1) := by decide +kernel
theorem dX3_image_40 : decode cX3_image 40 = .ok (.aload_n 0, 1) := by decide +kernel
theorem dX3_image_41 : decode cX3_image 41 = .ok (.getfield 85, 3) := by decide +kernel
theorem dX3_image_44 : decode cX3_image 44 = .ok (.putfield 199, 3) := by decide +kernel
theorem dX3_image_47 : decode cX3_image 47 = .ok (.iconst 0, 1) := by decide +kernel
theorem dX3_image_48 : decode cX3_image 48 = .ok (.istore_n 1, 1) := by decide +kernel
theorem dX3_image_49 : decode cX3_image 49 = .ok (.iload_n 1, 1) := by decide +kernel
theorem dX3_image_50 : decode cX3_image 50 = .ok (.bipush 9, 2) := by decide +kernel
theorem dX3_image_52 : decode cX3_image 52 = .ok (.if_icmp .ge 21, 3) := by decide +kernel
theorem dX3_image_55 : decode cX3_image 55 = .ok (.aload_n 0, 1) := by decide +kernel
theorem dX3_image_56 : decode cX3_image 56 = .ok (.getfield 38, 3) := by decide +kernel
theorem dX3_image_59 : decode cX3_image 59 = .ok (.iload_n 1, 1) := by decide +kernel
theorem dX3_image_60 : decode cX3_image 60 = .ok (.aload_n 0, 1) := by decide +kernel
theorem dX3_image_61 : decode cX3_image 61 = .ok (.getfield 13, 3) := by decide +kernel
theorem dX3_image_64 : decode cX3_image 64 = .ok (.iload_n 1, 1) := by decide +kernel
theorem dX3_image_65 : decode cX3_image 65 = .ok (.iaload, 1) := by decide +kernel
theorem dX3_image_66 : decode cX3_image 66 = .ok (.iastore, 1) := by decide +kernel
theorem dX3_image_67 : decode cX3_image 67 = .ok (.iinc 1 1, 3) := by decide +kernel
theorem dX3_image_70 : decode cX3_image 70 = .ok (.goto (-21), 3) := by decide +kernel
theorem dX3_image_73 : decode cX3_image 73 = .ok (.iconst 0, 1) := by decide +kernel
theorem dX3_image_74 : decode cX3_image 74 = .ok (.istore_n 1, 1) := by decide +kernel
theorem dX3_image_75 : decode cX3_image 75 = .ok (.iload_n 1, 1) := by decide +kernel
theorem dX3_image_76 : decode cX3_image 76 = .ok (.bipush 6, 2) := by decide +kernel
theorem dX3_image_78 : decode cX3_image 78 = .ok (.if_icmp .ge 33, 3) := by decide +kernel
theorem dX3_image_81 : decode cX3_image 81 = .ok (.aload_n 0, 1) := by decide +kernel
end
section
theorem dX3_image_82 : decode cX3_image 82 = .ok (.getfield 41, 3) := by decide +kernel
theorem dX3_image_85 : decode cX3_image 85 = .ok (.iload_n 1, 1) := by decide +kernel
theorem dX3_image_86 : decode cX3_image 86 = .ok (.aload_n 0, 1) := by decide +kernel
theorem dX3_image_87 : decode cX3_image 87 = .ok (.getfield 19, 3) := by decide +kernel
theorem dX3_image_90 : decode cX3_image 90 = .ok (.iload_n 1, 1) := by decide +kernel
theorem dX3_image_91 : decode cX3_image 91 = .ok (.iaload, 1) := by decide +kernel
theorem dX3_image_92 : decode cX3_image 92 = .ok (.iastore, 1) := by decide +kernel
theorem dX3_image_93 : decode cX3_image 93 = .ok (.aload_n 0, 1) := by decide +kernel
theorem dX3_image_94 : decode cX3_image 94 = .ok (.getfield 44, 3) := by decide +kernel
theorem dX3_image_97 : decode cX3_image 97 = .ok (.iload_n 1, 1) := by decide +kernel
theorem dX3_image_98 : decode cX3_image 98 = .ok (.aload_n 0, 1) := by decide +kernel
theorem dX3_image_99 : decode cX3_image 99 = .ok (.getfield 22, 3) := by decide +kernel
theorem dX3_image_102 : decode cX3_image 102 = .ok (.iload_n 1, 1) := by decide +kernel
theorem dX3_image_103 : decode cX3_image 103 = .ok (.iaload, 1) := by decide +kernel
theorem dX3_image_104 : decode cX3_image 104 = .ok (.iastore, 1) := by decide +kernel
theorem dX3_image_105 : decode cX3_image 105 = .ok (.iinc 1 1, 3) := by decide +kernel
theorem dX3_image_108 : decode cX3_image 108 = .ok (.goto (-33), 3) := by decide +kernel
theorem dX3_image_111 : decode cX3_image 111 = .ok (.iconst 0, 1) := by decide +kernel
theorem dX3_image_112 : decode cX3_image 112 = .ok (.istore_n 1, 1) := by decide +kernel
theorem dX3_image_113 : decode cX3_image 113 = .ok (.iload_n 1, 1) := by decide +kernel
theorem dX3_image_114 : decode cX3_image 114 = .ok (.bipush 8, 2) := by decide +kernel
theorem dX3_image_116 : decode cX3_image 116 = .ok (.if_icmp .ge 45, 3) := by decide +kernel
theorem dX3_image_119 : decode cX3_image 119 = .ok (.aload_n 0, 1) := by decide +kernel
theorem dX3_image_120 : decode cX3_image 120 = .ok (.getfield 47, 3) := by decide +kernel
theorem dX3_image_123 : decode cX3_image 123 = .ok (.iload_n 1, 1) := by decide +kernel
theorem dX3_image_124 : decode cX3_image 124 = .ok (.aload_n 0, 1) := by decide +kernel
theorem dX3_image_125 : decode cX3_image 125 = .ok (.getfield 25, 3) := by decide +kernel
theorem dX3_image_128 : decode cX3_image 128 = .ok (.iload_n 1, 1) := by decide +kernel
theorem dX3_image_129 : decode cX3_image 129 = .ok (.iaload, 1) := by decide +kernel
theorem dX3_image_130 : decode cX3_image 130 = .ok (.iastore, 1) := by decide +kernel
theorem dX3_image_131 : decode cX3_image 131 = .ok (.aload_n 0, 1) := by decide +kernel
theorem dX3_image_132 : decode cX3_image 132 = .ok (.getfield 50, 3) := by decide +kernel
theorem dX3_image_135 : decode cX3_image 135 = .ok (.iload_n 1, 1) := by decide +kernel
theorem dX3_image_136 : decode cX3_image 136 = .ok (.aload_n 0, 1) := by decide +kernel
theorem dX3_image_137 : decode cX3_image 137 = .ok (.getfield 28, 3) := by decide +kernel
theorem dX3_image_140 : decode cX3_image 140 = .ok (.iload_n 1, 1) := by decide +kernel
theorem dX3_image_141 : decode cX3_image 141 = .ok (.iaload, 1) := by decide +kernel
theorem dX3_image_142 : decode cX3_image 142 = .ok (.iastore, 1) := by decide +kernel
theorem dX3_image_143 : decode cX3_image 143 = .ok (.aload_n 0, 1) := by decide +kernel
theorem dX3_image_144 : decode cX3_image 144 = .ok (.getfield 53, 3) := by decide +kernel
theorem dX3_image_147 : decode cX3_image 147 = .ok (.iload_n 1, 1) := by decide +kernel
theorem dX3_image_148 : decode cX3_image 148 = .ok (.aload_n 0, 1) := by decide +kernel
theorem dX3_image_149 : decode cX3_image 149 = .ok (.getfield 31, 3) := by decide +kernel
theorem dX3_image_152 : decode cX3_image 152 = .ok (.iload_n 1, 1) := by decide +kernel
theorem dX3_image_153 : decode cX3_image 153 = .ok (.iaload, 1) := by decide +kernel
theorem dX3_image_154 : decode cX3_image 154 = .ok (.iastore, 1) := by decide +kernel
theorem dX3_image_155 : decode cX3_image 155 = .ok (.iinc 1 1, 3) := by decide +kernel
theorem dX3_image_158 : decode cX3_image 158 = .ok (.goto (-45), 3) := by decide +kernel
theorem dX3_image_161 : decode cX3_image 161 = .ok (.aload_n 0, 1) := by decide +kernel
theorem dX3_image_162 : decode cX3_image 162 = .ok (.getfield 82, 3) := by decide +kernel
theorem dX3_image_165 : decode cX3_image 165 = .ok (.ireturn, 1) := by decide +kernel
theorem dX3_restore_0 : decode cX3_restore 0 = .ok (.aload_n 0, 1) := by decide +kernel
theorem dX3_restore_1 : decode cX3_restore 1 = .ok (.getfield 187, 3) := by decide +kernel
theorem dX3_restore_4 : decode cX3_restore 4 = .ok (.ifCond .eq 14, 3) := by decide +kernel
theorem dX3_restore_7 : decode cX3_restore 7 = .ok (.aload_n 0, 1) := by decide +kernel
theorem dX3_restore_8 : decode cX3_restore 8 = .ok (.getfield 190, 3) := by decide +kernel
theorem dX3_restore_11 : decode cX3_restore 11 = .ok (.aload_n 0, 1) := by decide +kernel
theorem dX3_restore_12 : decode cX3_restore 12 = .ok (.getfield 79, 3) := by decide +kernel
theorem dX3_restore_15 : decode cX3_restore 15 = .ok (.if_icmp .eq 6, 3) := by decide +kernel
theorem dX3_restore_18 : decode cX3_restore 18 = .ok (.bipush (-103), 2) := by decide +kernel
theorem dX3_restore_20 : decode cX3_restore 20 = .ok (.ireturn, 1) := by decide +kernel
theorem dX3_restore_21 : decode cX3_restore 21 = .ok (.aload_n 0, 1) := by decide +kernel
theorem dX3_restore_22 : decode cX3_restore 22 = .ok (.aload_n 0, 1) := by decide +kernel
theorem dX3_restore_23 : decode cX3_restore 23 = .ok (.getfield 193, 3) := by decide +kernel
theorem dX3_restore_26 : decode cX3_restore 26 = .ok (.putfield 72, 3) := by decide +kernel
theorem dX3_restore_29 : decode cX3_restore 29 = .ok (.aload_n 0, 1) := by decide +kernel
theorem dX3_restore_30 : decode cX3_restore 30 = .ok (.aload_n 0, 1) := by decide +kernel
theorem dX3_restore_31 : decode cX3_restore 31 = .ok (.getfield 196, 3) := by decide +kernel
theorem dX3_restore_34 : decode cX3_restore 34 = .ok (.putfield 82, 3) := by decide +kernel
theorem dX3_restore_37 : decode cX3_restore 37 = .ok (.aload_n 0, 1) := by decide +kernel
theorem dX3_restore_38 : decode cX3_restore 38 = .ok (.aload_n 0, 1) := by decide +kernel
theorem dX3_restore_39 : decode cX3_restore 39 = .ok (.getfield 199, 3) := by decide +kernel
theorem dX3_restore_42 : decode cX3_restore 42 = .ok (.putfield 85, 3) := by decide +kernel
theorem dX3_restore_45 : decode cX3_restore 45 = .ok (.iconst 0, 1) := by decide +kernel
theorem dX3_restore_46 : decode cX3_restore 46 = .ok (.istore_n 1, 1) := by decide +kernel
theorem dX3_restore_47 : decode cX3_restore 47 = .ok (.iload_n 1, 1) := by decide +kernel
theorem dX3_restore_48 : decode cX3_restore 48 = .ok (.bipush 9, 2) := by decide +kernel
theorem dX3_restore_50 : decode cX3_restore 50 = .ok (.if_icmp .ge 21, 3) := by decide +kernel
theorem dX3_restore_53 : decode cX3_restore 53 = .ok (.aload_n 0, 1) := by decide +kernel
theorem dX3_restore_54 : decode cX3_restore 54 = .ok (.getfield 13, 3) := by decide +kernel
theorem dX3_restore_57 : decode cX3_restore 57 = .ok (.iload_n 1, 1) := by decide +kernel
theorem dX3_restore_58 : decode cX3_restore 58 = .ok (.aload_n 0, 1) := by decide +kernel
theorem dX3_restore_59 : decode cX3_restore 59 = .ok (.getfield 38, 3) := by decide +kernel
theorem dX3_restore_62 : decode cX3_restore 62 = .ok (.iload_n 1, 1) := by decide +kernel
theorem dX3_restore_63 : decode cX3_restore 63 = .ok (.iaload, 1) := by decide +kernel
theorem dX3_restore_64 : decode cX3_restore 64 = .ok (.iastore, 1) := by decide +kernel
theorem dX3_restore_65 : decode cX3_restore 65 = .ok (.iinc 1 1, 3) := by decide +kernel
theorem dX3_restore_68 : decode cX3_restore 68 = .ok (.goto (-21), 3) := by decide +kernel
theorem dX3_restore_71 : decode cX3_restore 71 = .ok (.iconst 0, 1) := by decide +kernel
theorem dX3_restore_72 : decode cX3_restore 72 = .ok (.istore_n 1, 1) := by decide +kernel
theorem dX3_restore_73 : decode cX3_restore 73 = .ok (.iload_n 1, 1) := by decide +kernel
theorem dX3_restore_74 : decode cX3_restore 74 = .ok (.bipush 6, 2) := by decide +kernel
theorem dX3_restore_76 : decode cX3_restore 76 = .ok (.if_icmp .ge 33, 3) := by decide +kernel
theorem dX3_restore_79 : decode cX3_restore 79 = .ok (.aload_n 0, 1) := by decide +kernel
theorem dX3_restore_80 : decode cX3_restore 80 = .ok (.getfield 19, 3) := by decide +kernel
theorem dX3_restore_83 : decode cX3_restore 83 = .ok (.iload_n 1, 1) := by decide +kernel
theorem dX3_restore_84 : decode cX3_restore 84 = .ok (.aload_n 0, 1) := by decide +kernel
theorem dX3_restore_85 : decode cX3_restore 85 = .ok (.getfield 41, 3) := by decide +kernel
theorem dX3_restore_88 : decode cX3_restore 88 = .ok (.iload_n 1, 1) := by decide +kernel
theorem dX3_restore_89 : decode cX3_restore 89 = .ok (.iaload, 1) := by decide +kernel
theorem dX3_restore_90 : decode cX3_restore 90 = .ok (.iastore, 1) := by decide +kernel
theorem dX3_restore_91 : decode cX3_restore 91 = .ok (.aload_n 0, 1) := by decide +kernel
theorem dX3_restore_92 : decode cX3_restore 92 = .ok (.getfield 22, 3) := by decide +kernel
theorem dX3_restore_95 : decode cX3_restore 95 = .ok (.iload_n 1, 1) := by decide +kernel
theorem dX3_restore_96 : decode cX3_restore 96 = .ok (.aload_n 0, 1) := by decide +kernel
theorem dX3_restore_97 : decode cX3_restore 97 = .ok (.getfield 44, 3) := by decide +kernel
theorem dX3_restore_100 : decode cX3_restore 100 = .ok (.iload_n 1, 1) := by decide +kernel
theorem dX3_restore_101 : decode cX3_restore 101 = .ok (.iaload, 1) := by decide +kernel
theorem dX3_restore_102 : decode cX3_restore 102 = .ok (.iastore, 1) := by decide +kernel
theorem dX3_restore_103 : decode cX3_restore 103 = .ok (.iinc 1 1, 3) := by decide +kernel
theorem dX3_restore_106 : decode cX3_restore 106 = .ok (.goto (-33), 3) := by decide +kernel
theorem dX3_restore_109 : decode cX3_restore 109 = .ok (.iconst 0, 1) := by decide +kernel
theorem dX3_restore_110 : decode cX3_restore 110 = .ok (.istore_n 1, 1) := by decide +kernel
theorem dX3_restore_111 : decode cX3_restore 111 = .ok (.iload_n 1, 1) := by decide +kernel
theorem dX3_restore_112 : decode cX3_restore 112 = .ok (.bipush 8, 2) := by decide +kernel
theorem dX3_restore_114 : decode cX3_restore 114 = .ok (.if_icmp .ge 45, 3) := by decide +kernel
theorem dX3_restore_117 : decode cX3_restore 117 = .ok (.aload_n 0, 1) := by decide +kernel
theorem dX3_restore_118 : decode cX3_restore 118 = .ok (.getfield 25, 3) := by decide +kernel
theorem dX3_restore_121 : decode cX3_restore 121 = .ok (.iload_n 1, 1) := by decide +kernel
theorem dX3_restore_122 : decode cX3_restore 122 = .ok (.aload_n 0, 1) := by decide +kernel
theorem dX3_restore_123 : decode cX3_restore 123 = .ok (.getfield 47, 3) := by decide +kernel
theorem dX3_restore_126 : decode cX3_restore 126 = .ok (.iload_n 1, 1) := by decide +kernel
theorem dX3_restore_127 : decode cX3_restore 127 = .ok (.iaload, 1) := by decide +kernel
theorem dX3_restore_128 : decode cX3_restore 128 = .ok (.iastore, 1) := by decide +kernel
theorem dX3_restore_129 : decode cX3_restore 129 = .ok (.aload_n 0, 1) := by decide +kernel
theorem dX3_restore_130 : decode cX3_restore 130 = .ok (.getfield 28, 3) := by decide +kernel
theorem dX3_restore_133 : decode cX3_restore 133 = .ok (.iload_n 1, 1) := by decide +kernel
theorem dX3_restore_134 : decode cX3_restore 134 = .ok (.aload_n 0, 1) := by decide +kernel
theorem dX3_restore_135 : decode cX3_restore 135 = .ok (.getfield 50, 3) := by decide +kernel
theorem dX3_restore_138 : decode cX3_restore 138 = .ok (.iload_n 1, 1) := by decide +kernel
theorem dX3_restore_139 : decode cX3_restore 139 = .ok (.iaload, 1) := by decide +kernel
theorem dX3_restore_140 : decode cX3_restore 140 = .ok (.iastore, 1) := by decide +kernel
theorem dX3_restore_141 : decode cX3_restore 141 = .ok (.aload_n 0, 1) := by decide +kernel
theorem dX3_restore_142 : decode cX3_restore 142 = .ok (.getfield 31, 3) := by decide +kernel
theorem dX3_restore_145 : decode cX3_restore 145 = .ok (.iload_n 1, 1) := by decide +kernel
theorem dX3_restore_146 : decode cX3_restore 146 = .ok (.aload_n 0, 1) := by decide +kernel
theorem dX3_restore_147 : decode cX3_restore 147 = .ok (.getfield 53, 3) := by decide +kernel
theorem dX3_restore_150 : decode cX3_restore 150 = .ok (.iload_n 1, 1) := by decide +kernel
theorem dX3_restore_151 : decode cX3_restore 151 = .ok (.iaload, 1) := by decide +kernel
theorem dX3_restore_152 : decode cX3_restore 152 = .ok (.iastore, 1) := by decide +kernel
theorem dX3_restore_153 : decode cX3_restore 153 = .ok (.iinc 1 1, 3) := by decide +kernel
theorem dX3_restore_156 : decode cX3_restore 156 = .ok (.goto (-45), 3) := by decide +kernel
theorem dX3_restore_159 : decode cX3_restore 159 = .ok (.aload_n 0, 1) := by decide +kernel
theorem dX3_restore_160 : decode cX3_restore 160 = .ok (.getfield 82, 3) := by decide +kernel
theorem dX3_restore_163 : decode cX3_restore 163 = .ok (.ireturn, 1) := by decide +kernel
set_option maxRecDepth 20000 in
theorem ggX3_agreeingDrawers_X3_anyLaid : GoodIn wsX3_agreeingDrawers wsX3_anyLaid := goodIn_r _ [7, 8, 9, 10, 6, 11, 12, 13, 14, 15, 16, 17, 18, 19, 20, 21, 22, 23, 24, 25, 26, 27, 28, 29, 30, 31, 32, 33, 34, 35, 36, 37, 38, 39, 40, 41, 42, 43, 44, 45, 46, 47, 48, 49, 50, 51, 52, 53, 54, 55, 56, 57, 58, 59, 60] (by decide +kernel) (by decide +kernel)
set_option maxRecDepth 20000 in
theorem gX3_agreeingDrawers_X3_anyLaid : GoodIn wsX3_agreeingDrawers (wsV RX3 181 RX3 yX3_anyLaid wsX3_anyLaid) := goodIn_app (goodIn_of _ (by decide +kernel)) ggX3_agreeingDrawers_X3_anyLaid
theorem dX3_agreeingDrawers_0 : decode cX3_agreeingDrawers 0 = .ok (.iconst 0, 1) := by decide +kernel
theorem dX3_agreeingDrawers_1 : decode cX3_agreeingDrawers 1 = .ok (.istore_n 1, 1) := by decide +kernel
theorem dX3_agreeingDrawers_2 : decode cX3_agreeingDrawers 2 = .ok (.iconst 0, 1) := by decide +kernel
theorem dX3_agreeingDrawers_3 : decode cX3_agreeingDrawers 3 = .ok (.istore_n 2, 1) := by decide +kernel
theorem dX3_agreeingDrawers_4 : decode cX3_agreeingDrawers 4 = .ok (.iload_n 2, 1) := by decide +kernel
theorem dX3_agreeingDrawers_5 : decode cX3_agreeingDrawers 5 = .ok (.bipush 9, 2) := by decide +kernel
theorem dX3_agreeingDrawers_7 : decode cX3_agreeingDrawers 7 = .ok (.if_icmp .ge 38, 3) := by decide +kernel
theorem dX3_agreeingDrawers_10 : decode cX3_agreeingDrawers 10 = .ok (.aload_n 0, 1) := by decide +kernel
theorem dX3_agreeingDrawers_11 : decode cX3_agreeingDrawers 11 = .ok (.getfield 75, 3) := by decide +kernel
theorem dX3_agreeingDrawers_14 : decode cX3_agreeingDrawers 14 = .ok (.ifCond .eq 31, 3) := by decide +kernel
theorem dX3_agreeingDrawers_17 : decode cX3_agreeingDrawers 17 = .ok (.iload_n 1, 1) := by decide +kernel
theorem dX3_agreeingDrawers_18 : decode cX3_agreeingDrawers 18 = .ok (.aload_n 0, 1) := by decide +kernel
theorem dX3_agreeingDrawers_19 : decode cX3_agreeingDrawers 19 = .ok (.iload_n 2, 1) := by decide +kernel
theorem dX3_agreeingDrawers_20 : decode cX3_agreeingDrawers 20 = .ok (.aload_n 0, 1) := by decide +kernel
theorem dX3_agreeingDrawers_21 : decode cX3_agreeingDrawers 21 = .ok (.getfield 13, 3) := by decide +kernel
theorem dX3_agreeingDrawers_24 : decode cX3_agreeingDrawers 24 = .ok (.iload_n 2, 1) := by decide +kernel
theorem dX3_agreeingDrawers_25 : decode cX3_agreeingDrawers 25 = .ok (.iaload, 1) := by decide +kernel
theorem dX3_agreeingDrawers_26 : decode cX3_agreeingDrawers 26 = .ok (.invokevirtual 181, 3) := by decide +kernel
theorem dX3_agreeingDrawers_29 : decode cX3_agreeingDrawers 29 = .ok (.ifCond .eq 7, 3) := by decide +kernel
theorem dX3_agreeingDrawers_32 : decode cX3_agreeingDrawers 32 = .ok (.iconst 1, 1) := by decide +kernel
theorem dX3_agreeingDrawers_33 : decode cX3_agreeingDrawers 33 = .ok (.goto 4, 3) := by decide +kernel
theorem dX3_agreeingDrawers_36 : decode cX3_agreeingDrawers 36 = .ok (.iconst 0, 1) := by decide +kernel
theorem dX3_agreeingDrawers_37 : decode cX3_agreeingDrawers 37 = .ok (.iadd, 1) := by decide +kernel
theorem dX3_agreeingDrawers_38 : decode cX3_agreeingDrawers 38 = .ok (.istore_n 1, 1) := by decide +kernel
theorem dX3_agreeingDrawers_39 : decode cX3_agreeingDrawers 39 = .ok (.iinc 2 1, 3) := by decide +kernel
theorem dX3_agreeingDrawers_42 : decode cX3_agreeingDrawers 42 = .ok (.goto (-38), 3) := by decide +kernel
theorem dX3_agreeingDrawers_45 : decode cX3_agreeingDrawers 45 = .ok (.iload_n 1, 1) := by decide +kernel
theorem dX3_agreeingDrawers_46 : decode cX3_agreeingDrawers 46 = .ok (.ireturn, 1) := by decide +kernel
set_option maxRecDepth 20000 in
theorem ggX3_laidAll_X3_size : GoodIn wsX3_laidAll wsX3_size := goodIn_r _ [5] (by decide +kernel) (by decide +kernel)
set_option maxRecDepth 20000 in
theorem gX3_laidAll_X3_size : GoodIn wsX3_laidAll (va_wsS RX3 141 yX3_size wsX3_size) := goodIn_app (goodIn_of _ (by decide +kernel)) ggX3_laidAll_X3_size
theorem dX3_laidAll_0 : decode cX3_laidAll 0 = .ok (.iconst 0, 1) := by decide +kernel
theorem dX3_laidAll_1 : decode cX3_laidAll 1 = .ok (.istore_n 1, 1) := by decide +kernel
theorem dX3_laidAll_2 : decode cX3_laidAll 2 = .ok (.iconst 0, 1) := by decide +kernel
theorem dX3_laidAll_3 : decode cX3_laidAll 3 = .ok (.istore_n 2, 1) := by decide +kernel
theorem dX3_laidAll_4 : decode cX3_laidAll 4 = .ok (.iload_n 2, 1) := by decide +kernel
theorem dX3_laidAll_5 : decode cX3_laidAll 5 = .ok (.bipush 9, 2) := by decide +kernel
theorem dX3_laidAll_7 : decode cX3_laidAll 7 = .ok (.if_icmp .ge 21, 3) := by decide +kernel
theorem dX3_laidAll_10 : decode cX3_laidAll 10 = .ok (.iload_n 1, 1) := by decide +kernel
theorem dX3_laidAll_11 : decode cX3_laidAll 11 = .ok (.aload_n 0, 1) := by decide +kernel
theorem dX3_laidAll_12 : decode cX3_laidAll 12 = .ok (.getfield 13, 3) := by decide +kernel
theorem dX3_laidAll_15 : decode cX3_laidAll 15 = .ok (.iload_n 2, 1) := by decide +kernel
theorem dX3_laidAll_16 : decode cX3_laidAll 16 = .ok (.iaload, 1) := by decide +kernel
theorem dX3_laidAll_17 : decode cX3_laidAll 17 = .ok (.invokestatic 141, 3) := by decide +kernel
theorem dX3_laidAll_20 : decode cX3_laidAll 20 = .ok (.iadd, 1) := by decide +kernel
theorem dX3_laidAll_21 : decode cX3_laidAll 21 = .ok (.istore_n 1, 1) := by decide +kernel
theorem dX3_laidAll_22 : decode cX3_laidAll 22 = .ok (.iinc 2 1, 3) := by decide +kernel
theorem dX3_laidAll_25 : decode cX3_laidAll 25 = .ok (.goto (-21), 3) := by decide +kernel
theorem dX3_laidAll_28 : decode cX3_laidAll 28 = .ok (.iload_n 1, 1) := by decide +kernel
theorem dX3_laidAll_29 : decode cX3_laidAll 29 = .ok (.ireturn, 1) := by decide +kernel
set_option maxRecDepth 20000 in
theorem ggX3_howMany_X3_agreeingDrawers : GoodIn wsX3_howMany wsX3_agreeingDrawers := goodIn_r _ [11, 12, 13, 14, 15, 16, 10, 17, 18, 19, 20, 21, 1, 22, 23, 24, 25, 26, 27, 28, 29, 30, 2, 31, 32, 33, 34, 35, 36, 37, 38, 39, 47, 48, 49, 50, 51, 52, 53, 54, 55, 56, 57, 58, 59, 60, 61, 62, 63, 64, 65, 66, 67, 68, 69, 70, 71, 72, 73, 74, 75] (by decide +kernel) (by decide +kernel)
set_option maxRecDepth 20000 in
theorem gX3_howMany_X3_agreeingDrawers : GoodIn wsX3_howMany (wsV RX3 202 RX3 yX3_agreeingDrawers wsX3_agreeingDrawers) := goodIn_app (goodIn_of _ (by decide +kernel)) ggX3_howMany_X3_agreeingDrawers
set_option maxRecDepth 20000 in
theorem ggX3_howMany_X3_laidAll : GoodIn wsX3_howMany wsX3_laidAll := goodIn_r _ [43, 13, 44, 45, 10, 46, 47, 48, 49, 50, 51, 52, 53, 54, 55, 56, 57, 58, 59, 60, 61, 62, 63, 64, 65, 66, 67, 68, 69, 70, 71, 72, 73, 74, 75] (by decide +kernel) (by decide +kernel)
set_option maxRecDepth 20000 in
theorem gX3_howMany_X3_laidAll : GoodIn wsX3_howMany (wsV RX3 205 RX3 yX3_laidAll wsX3_laidAll) := goodIn_app (goodIn_of _ (by decide +kernel)) ggX3_howMany_X3_laidAll
theorem dX3_howMany_0 : decode cX3_howMany 0 = .ok (.iload_n 1, 1) := by decide +kernel
theorem dX3_howMany_1 : decode cX3_howMany 1 = .ok (.tableswitch 87 0 7 #[47, 52, 57, 62, 67, 72, 77, 82], 47) := by decide +kernel
theorem dX3_howMany_48 : decode cX3_howMany 48 = .ok (.aload_n 0, 1) := by decide +kernel
theorem dX3_howMany_49 : decode cX3_howMany 49 = .ok (.invokevirtual 202, 3) := by decide +kernel
theorem dX3_howMany_52 : decode cX3_howMany 52 = .ok (.ireturn, 1) := by decide +kernel
theorem dX3_howMany_53 : decode cX3_howMany 53 = .ok (.aload_n 0, 1) := by decide +kernel
theorem dX3_howMany_54 : decode cX3_howMany 54 = .ok (.getfield 72, 3) := by decide +kernel
theorem dX3_howMany_57 : decode cX3_howMany 57 = .ok (.ireturn, 1) := by decide +kernel
theorem dX3_howMany_58 : decode cX3_howMany 58 = .ok (.aload_n 0, 1) := by decide +kernel
theorem dX3_howMany_59 : decode cX3_howMany 59 = .ok (.getfield 82, 3) := by decide +kernel
theorem dX3_howMany_62 : decode cX3_howMany 62 = .ok (.ireturn, 1) := by decide +kernel
theorem dX3_howMany_63 : decode cX3_howMany 63 = .ok (.aload_n 0, 1) := by decide +kernel
theorem dX3_howMany_64 : decode cX3_howMany 64 = .ok (.invokevirtual 205, 3) := by decide +kernel
theorem dX3_howMany_67 : decode cX3_howMany 67 = .ok (.ireturn, 1) := by decide +kernel
theorem dX3_howMany_68 : decode cX3_howMany 68 = .ok (.aload_n 0, 1) := by decide +kernel
theorem dX3_howMany_69 : decode cX3_howMany 69 = .ok (.getfield 85, 3) := by decide +kernel
theorem dX3_howMany_72 : decode cX3_howMany 72 = .ok (.ireturn, 1) := by decide +kernel
theorem dX3_howMany_73 : decode cX3_howMany 73 = .ok (.aload_n 0, 1) := by decide +kernel
theorem dX3_howMany_74 : decode cX3_howMany 74 = .ok (.getfield 60, 3) := by decide +kernel
theorem dX3_howMany_77 : decode cX3_howMany 77 = .ok (.ireturn, 1) := by decide +kernel
theorem dX3_howMany_78 : decode cX3_howMany 78 = .ok (.aload_n 0, 1) := by decide +kernel
theorem dX3_howMany_79 : decode cX3_howMany 79 = .ok (.getfield 79, 3) := by decide +kernel
theorem dX3_howMany_82 : decode cX3_howMany 82 = .ok (.ireturn, 1) := by decide +kernel
theorem dX3_howMany_83 : decode cX3_howMany 83 = .ok (.aload_n 0, 1) := by decide +kernel
theorem dX3_howMany_84 : decode cX3_howMany 84 = .ok (.getfield 147, 3) := by decide +kernel
theorem dX3_howMany_87 : decode cX3_howMany 87 = .ok (.ireturn, 1) := by decide +kernel
theorem dX3_howMany_88 : decode cX3_howMany 88 = .ok (.bipush (-102), 2) := by decide +kernel
theorem dX3_howMany_90 : decode cX3_howMany 90 = .ok (.ireturn, 1) := by decide +kernel
set_option maxRecDepth 20000 in
theorem ggX3_count_X3_howMany : GoodIn wsX3_count wsX3_howMany := goodIn_r _ [5, 6, 7, 8, 9, 10, 11, 12, 13, 14, 4, 15, 16, 17, 18, 19, 20, 21, 22, 23, 24, 25, 26, 27, 28, 29, 30, 31, 32, 33, 34, 35, 36, 37, 38, 39, 40, 41, 42, 43, 44, 45, 46, 47, 48, 49, 50, 51, 52, 53, 54, 55, 56, 57, 58, 59, 60, 61, 62, 63, 64, 65, 66, 67, 68, 69, 70, 71, 72, 73, 74, 75, 76, 77, 78, 79] (by decide +kernel) (by decide +kernel)
set_option maxRecDepth 20000 in
theorem gX3_count_X3_howMany : GoodIn wsX3_count (wsV RX3 208 RX3 yX3_howMany wsX3_howMany) := goodIn_app (goodIn_of _ (by decide +kernel)) ggX3_count_X3_howMany
theorem dX3_count_0 : decode cX3_count 0 = .ok (.aload_n 0, 1) := by decide +kernel
theorem dX3_count_1 : decode cX3_count 1 = .ok (.iload_n 1, 1) := by decide +kernel
theorem dX3_count_2 : decode cX3_count 2 = .ok (.invokevirtual 208, 3) := by decide +kernel
theorem dX3_count_5 : decode cX3_count 5 = .ok (.ireturn, 1) := by decide +kernel
theorem dX3_mix_0 : decode cX3_mix 0 = .ok (.aload_n 0, 1) := by decide +kernel
theorem dX3_mix_1 : decode cX3_mix 1 = .ok (.ldc2_w 211, 3) := by decide +kernel
theorem dX3_mix_4 : decode cX3_mix 4 = .ok (.aload_n 0, 1) := by decide +kernel
theorem dX3_mix_5 : decode cX3_mix 5 = .ok (.getfield 213, 3) := by decide +kernel
theorem dX3_mix_8 : decode cX3_mix 8 = .ok (.lmul, 1) := by decide +kernel
theorem dX3_mix_9 : decode cX3_mix 9 = .ok (.lload_n 1, 1) := by decide +kernel
theorem dX3_mix_10 : decode cX3_mix 10 = .ok (.ladd, 1) := by decide +kernel
theorem dX3_mix_11 : decode cX3_mix 11 = .ok (.putfield 213, 3) := by decide +kernel
theorem dX3_mix_14 : decode cX3_mix 14 = .ok (.return_, 1) := by decide +kernel
set_option maxRecDepth 20000 in
theorem ggX3_mixDrawer_X3_drawerNow : GoodIn wsX3_mixDrawer wsX3_drawerNow := goodIn_r _ [5, 6, 7, 8, 9, 10, 4, 11, 12, 13, 14, 15, 16, 17, 18, 19, 20, 21, 22, 23, 24, 25, 26, 27, 28, 29, 30, 31, 32, 33, 34, 35, 36, 37, 38, 39, 40, 41, 42, 43, 44, 45, 46, 47, 48, 49, 50, 77, 78, 79, 80, 81, 82, 83, 84, 85, 86, 87, 88, 89, 90, 91, 92, 93, 94, 95, 96, 97, 98, 99, 100, 101, 102, 103, 104, 105] (by decide +kernel) (by decide +kernel)
set_option maxRecDepth 20000 in
theorem gX3_mixDrawer_X3_drawerNow : GoodIn wsX3_mixDrawer (wsV RX3 126 RX3 yX3_drawerNow wsX3_drawerNow) := goodIn_app (goodIn_of _ (by decide +kernel)) ggX3_mixDrawer_X3_drawerNow
set_option maxRecDepth 20000 in
theorem ggX3_mixDrawer_X3_mix : GoodIn wsX3_mixDrawer wsX3_mix := goodIn_r _ [54, 55, 56, 77, 78, 79, 80, 81, 82, 83, 84, 85, 86, 87, 88, 89, 90, 91, 92, 93, 94, 95, 96, 97, 98, 99, 100, 101, 102, 103, 104, 105] (by decide +kernel) (by decide +kernel)
set_option maxRecDepth 20000 in
theorem gX3_mixDrawer_X3_mix : GoodIn wsX3_mixDrawer (wsV RX3 216 RX3 yX3_mix wsX3_mix) := goodIn_app (goodIn_of _ (by decide +kernel)) ggX3_mixDrawer_X3_mix
set_option maxRecDepth 20000 in
theorem ggX3_mixDrawer_X3_sureNow : GoodIn wsX3_mixDrawer wsX3_sureNow := goodIn_r _ [60, 23, 24, 25, 4, 26, 7, 8, 9, 10, 11, 12, 6, 27, 28, 29, 30, 31, 32, 33, 34, 17, 18, 35, 36, 37, 38, 39, 40, 41, 42, 77, 78, 79, 80, 81, 82, 83, 84, 85, 86, 87, 88, 89, 90, 91, 92, 93, 94, 95, 96, 97, 98, 99, 100, 101, 102, 103, 104, 105] (by decide +kernel) (by decide +kernel)
set_option maxRecDepth 20000 in
theorem gX3_mixDrawer_X3_sureNow : GoodIn wsX3_mixDrawer (wsV RX3 138 RX3 yX3_sureNow wsX3_sureNow) := goodIn_app (goodIn_of _ (by decide +kernel)) ggX3_mixDrawer_X3_sureNow
set_option maxRecDepth 20000 in
theorem ggX3_mixDrawer_X3_delaysOf : GoodIn wsX3_mixDrawer wsX3_delaysOf := goodIn_r _ [64, 65, 66, 67, 4, 68, 7, 69, 70, 71, 72, 73, 74, 75, 76, 27, 28, 29, 30, 31, 32, 33, 34, 17, 18, 35, 36, 37, 38, 39, 40, 41, 42, 77, 78, 79, 80, 81, 82, 83, 84, 85, 86, 87, 88, 89, 90, 91, 92, 93, 94, 95, 96, 97, 98, 99, 100, 101, 102, 103, 104, 105] (by decide +kernel) (by decide +kernel)
set_option maxRecDepth 20000 in
theorem gX3_mixDrawer_X3_delaysOf : GoodIn wsX3_mixDrawer (wsV RX3 160 RX3 yX3_delaysOf wsX3_delaysOf) := goodIn_app (goodIn_of _ (by decide +kernel)) ggX3_mixDrawer_X3_delaysOf
theorem dX3_mixDrawer_0 : decode cX3_mixDrawer 0 = .ok (.iconst 0, 1) := by decide +kernel
theorem dX3_mixDrawer_1 : decode cX3_mixDrawer 1 = .ok (.istore_n 2, 1) := by decide +kernel
theorem dX3_mixDrawer_2 : decode cX3_mixDrawer 2 = .ok (.iload_n 2, 1) := by decide +kernel
theorem dX3_mixDrawer_3 : decode cX3_mixDrawer 3 = .ok (.bipush 7, 2) := by decide +kernel
theorem dX3_mixDrawer_5 : decode cX3_mixDrawer 5 = .ok (.if_icmp .ge 20, 3) := by decide +kernel
theorem dX3_mixDrawer_8 : decode cX3_mixDrawer 8 = .ok (.aload_n 0, 1) := by decide +kernel
theorem dX3_mixDrawer_9 : decode cX3_mixDrawer 9 = .ok (.aload_n 0, 1) := by decide +kernel
theorem dX3_mixDrawer_10 : decode cX3_mixDrawer 10 = .ok (.iload_n 1, 1) := by decide +kernel
theorem dX3_mixDrawer_11 : decode cX3_mixDrawer 11 = .ok (.iload_n 2, 1) := by decide +kernel
theorem dX3_mixDrawer_12 : decode cX3_mixDrawer 12 = .ok (.invokevirtual 126, 3) := by decide +kernel
theorem dX3_mixDrawer_15 : decode cX3_mixDrawer 15 = .ok (.i2l, 1) := by decide +kernel
theorem dX3_mixDrawer_16 : decode cX3_mixDrawer 16 = .ok (.invokevirtual 216, 3) := by decide +kernel
theorem dX3_mixDrawer_19 : decode cX3_mixDrawer 19 = .ok (.iinc 2 1, 3) := by decide +kernel
theorem dX3_mixDrawer_22 : decode cX3_mixDrawer 22 = .ok (.goto (-20), 3) := by decide +kernel
theorem dX3_mixDrawer_25 : decode cX3_mixDrawer 25 = .ok (.iconst 0, 1) := by decide +kernel
theorem dX3_mixDrawer_26 : decode cX3_mixDrawer 26 = .ok (.istore_n 2, 1) := by decide +kernel
theorem dX3_mixDrawer_27 : decode cX3_mixDrawer 27 = .ok (.iload_n 2, 1) := by decide +kernel
theorem dX3_mixDrawer_28 : decode cX3_mixDrawer 28 = .ok (.bipush 7, 2) := by decide +kernel
theorem dX3_mixDrawer_30 : decode cX3_mixDrawer 30 = .ok (.if_icmp .ge 20, 3) := by decide +kernel
theorem dX3_mixDrawer_33 : decode cX3_mixDrawer 33 = .ok (.aload_n 0, 1) := by decide +kernel
theorem dX3_mixDrawer_34 : decode cX3_mixDrawer 34 = .ok (.aload_n 0, 1) := by decide +kernel
theorem dX3_mixDrawer_35 : decode cX3_mixDrawer 35 = .ok (.iload_n 1, 1) := by decide +kernel
theorem dX3_mixDrawer_36 : decode cX3_mixDrawer 36 = .ok (.iload_n 2, 1) := by decide +kernel
theorem dX3_mixDrawer_37 : decode cX3_mixDrawer 37 = .ok (.invokevirtual 138, 3) := by decide +kernel
theorem dX3_mixDrawer_40 : decode cX3_mixDrawer 40 = .ok (.i2l, 1) := by decide +kernel
theorem dX3_mixDrawer_41 : decode cX3_mixDrawer 41 = .ok (.invokevirtual 216, 3) := by decide +kernel
theorem dX3_mixDrawer_44 : decode cX3_mixDrawer 44 = .ok (.iinc 2 1, 3) := by decide +kernel
theorem dX3_mixDrawer_47 : decode cX3_mixDrawer 47 = .ok (.goto (-20), 3) := by decide +kernel
theorem dX3_mixDrawer_50 : decode cX3_mixDrawer 50 = .ok (.aload_n 0, 1) := by decide +kernel
theorem dX3_mixDrawer_51 : decode cX3_mixDrawer 51 = .ok (.aload_n 0, 1) := by decide +kernel
theorem dX3_mixDrawer_52 : decode cX3_mixDrawer 52 = .ok (.iload_n 1, 1) := by decide +kernel
theorem dX3_mixDrawer_53 : decode cX3_mixDrawer 53 = .ok (.invokevirtual 160, 3) := by decide +kernel
theorem dX3_mixDrawer_56 : decode cX3_mixDrawer 56 = .ok (.i2l, 1) := by decide +kernel
theorem dX3_mixDrawer_57 : decode cX3_mixDrawer 57 = .ok (.invokevirtual 216, 3) := by decide +kernel
theorem dX3_mixDrawer_60 : decode cX3_mixDrawer 60 = .ok (.return_, 1) := by decide +kernel
set_option maxRecDepth 20000 in
theorem ggX3_digest_X3_mixDrawer : GoodIn wsX3_digest wsX3_mixDrawer := goodIn_r _ [11, 12, 13, 14, 10, 15, 16, 17, 18, 19, 20, 21, 22, 23, 24, 25, 26, 4, 27, 28, 29, 30, 31, 32, 33, 34, 35, 36, 37, 38, 39, 40, 41, 42, 43, 44, 45, 46, 47, 48, 49, 50, 51, 52, 53, 54, 55, 56, 57, 58, 59, 60, 61, 62, 63, 64, 2, 65, 66, 67, 68, 69, 70, 71, 72, 73, 74, 75, 76, 77, 78, 79, 80, 81, 82, 83, 84, 114, 115, 116, 117, 118, 119, 120, 121, 122, 123, 124, 125, 126, 127, 128, 129, 130, 131, 132, 133, 134, 135, 136, 137, 138, 139, 140, 141, 142] (by decide +kernel) (by decide +kernel)
set_option maxRecDepth 20000 in
theorem gX3_digest_X3_mixDrawer : GoodIn wsX3_digest (wsV RX3 222 RX3 yX3_mixDrawer wsX3_mixDrawer) := goodIn_app (goodIn_of _ (by decide +kernel)) ggX3_digest_X3_mixDrawer
set_option maxRecDepth 20000 in
theorem ggX3_digest_X3_personNow : GoodIn wsX3_digest wsX3_personNow := goodIn_r _ [88, 44, 45, 27, 49, 50, 10, 51, 114, 115, 116, 117, 118, 119, 120, 121, 122, 123, 124, 125, 126, 127, 128, 129, 130, 131, 132, 133, 134, 135, 136, 137, 138, 139, 140, 141, 142] (by decide +kernel) (by decide +kernel)
set_option maxRecDepth 20000 in
theorem gX3_digest_X3_personNow : GoodIn wsX3_digest (wsV RX3 135 RX3 yX3_personNow wsX3_personNow) := goodIn_app (goodIn_of _ (by decide +kernel)) ggX3_digest_X3_personNow
set_option maxRecDepth 20000 in
theorem ggX3_digest_X3_mix : GoodIn wsX3_digest wsX3_mix := goodIn_r _ [63, 64, 2, 114, 115, 116, 117, 118, 119, 120, 121, 122, 123, 124, 125, 126, 127, 128, 129, 130, 131, 132, 133, 134, 135, 136, 137, 138, 139, 140, 141, 142] (by decide +kernel) (by decide +kernel)
set_option maxRecDepth 20000 in
theorem gX3_digest_X3_mix : GoodIn wsX3_digest (wsV RX3 216 RX3 yX3_mix wsX3_mix) := goodIn_app (goodIn_of _ (by decide +kernel)) ggX3_digest_X3_mix
set_option maxRecDepth 20000 in
theorem ggX3_digest_X3_whoNow : GoodIn wsX3_digest wsX3_whoNow := goodIn_r _ [92, 44, 45, 27, 18, 19, 20, 10, 21, 22, 16, 73, 74, 75, 76, 17, 77, 78, 79, 80, 81, 82, 83, 84, 36, 37, 38, 39, 40, 41, 42, 43, 4, 46, 47, 48, 49, 50, 51, 114, 115, 116, 117, 118, 119, 120, 121, 122, 123, 124, 125, 126, 127, 128, 129, 130, 131, 132, 133, 134, 135, 136, 137, 138, 139, 140, 141, 142] (by decide +kernel) (by decide +kernel)
set_option maxRecDepth 20000 in
theorem gX3_digest_X3_whoNow : GoodIn wsX3_digest (wsV RX3 163 RX3 yX3_whoNow wsX3_whoNow) := goodIn_app (goodIn_of _ (by decide +kernel)) ggX3_digest_X3_whoNow
set_option maxRecDepth 20000 in
theorem ggX3_digest_X3_howMany : GoodIn wsX3_digest wsX3_howMany := goodIn_r _ [96, 22, 4, 81, 5, 97, 98, 99, 100, 101, 10, 102, 3, 17, 103, 104, 105, 106, 18, 19, 20, 21, 16, 36, 37, 38, 39, 40, 41, 42, 43, 27, 44, 45, 46, 47, 48, 49, 50, 51, 107, 108, 109, 110, 111, 112, 113, 114, 115, 116, 117, 118, 119, 120, 121, 122, 123, 124, 125, 126, 127, 128, 129, 130, 131, 132, 133, 134, 135, 136, 137, 138, 139, 140, 141, 142] (by decide +kernel) (by decide +kernel)
set_option maxRecDepth 20000 in
theorem gX3_digest_X3_howMany : GoodIn wsX3_digest (wsV RX3 208 RX3 yX3_howMany wsX3_howMany) := goodIn_app (goodIn_of _ (by decide +kernel)) ggX3_digest_X3_howMany
theorem dX3_digest_0 : decode cX3_digest 0 = .ok (.aload_n 0, 1) := by decide +kernel
theorem dX3_digest_1 : decode cX3_digest 1 = .ok (.ldc2_w 220, 3) := by decide +kernel
theorem dX3_digest_4 : decode cX3_digest 4 = .ok (.putfield 213, 3) := by decide +kernel
theorem dX3_digest_7 : decode cX3_digest 7 = .ok (.iconst 0, 1) := by decide +kernel
theorem dX3_digest_8 : decode cX3_digest 8 = .ok (.istore_n 1, 1) := by decide +kernel
theorem dX3_digest_9 : decode cX3_digest 9 = .ok (.iload_n 1, 1) := by decide +kernel
theorem dX3_digest_10 : decode cX3_digest 10 = .ok (.bipush 9, 2) := by decide +kernel
theorem dX3_digest_12 : decode cX3_digest 12 = .ok (.if_icmp .ge 21, 3) := by decide +kernel
theorem dX3_digest_15 : decode cX3_digest 15 = .ok (.aload_n 0, 1) := by decide +kernel
theorem dX3_digest_16 : decode cX3_digest 16 = .ok (.getfield 75, 3) := by decide +kernel
theorem dX3_digest_19 : decode cX3_digest 19 = .ok (.ifCond .eq 14, 3) := by decide +kernel
theorem dX3_digest_22 : decode cX3_digest 22 = .ok (.aload_n 0, 1) := by decide +kernel
theorem dX3_digest_23 : decode cX3_digest 23 = .ok (.iload_n 1, 1) := by decide +kernel
theorem dX3_digest_24 : decode cX3_digest 24 = .ok (.invokevirtual 222, 3) := by decide +kernel
theorem dX3_digest_27 : decode cX3_digest 27 = .ok (.iinc 1 1, 3) := by decide +kernel
theorem dX3_digest_30 : decode cX3_digest 30 = .ok (.goto (-21), 3) := by decide +kernel
theorem dX3_digest_33 : decode cX3_digest 33 = .ok (.iconst 0, 1) := by decide +kernel
theorem dX3_digest_34 : decode cX3_digest 34 = .ok (.istore_n 1, 1) := by decide +kernel
theorem dX3_digest_35 : decode cX3_digest 35 = .ok (.iload_n 1, 1) := by decide +kernel
theorem dX3_digest_36 : decode cX3_digest 36 = .ok (.aload_n 0, 1) := by decide +kernel
theorem dX3_digest_37 : decode cX3_digest 37 = .ok (.getfield 82, 3) := by decide +kernel
theorem dX3_digest_40 : decode cX3_digest 40 = .ok (.if_icmp .ge 55, 3) := by decide +kernel
theorem dX3_digest_43 : decode cX3_digest 43 = .ok (.iconst 0, 1) := by decide +kernel
theorem dX3_digest_44 : decode cX3_digest 44 = .ok (.istore_n 2, 1) := by decide +kernel
theorem dX3_digest_45 : decode cX3_digest 45 = .ok (.iload_n 2, 1) := by decide +kernel
theorem dX3_digest_46 : decode cX3_digest 46 = .ok (.iconst 3, 1) := by decide +kernel
theorem dX3_digest_47 : decode cX3_digest 47 = .ok (.if_icmp .ge 20, 3) := by decide +kernel
theorem dX3_digest_50 : decode cX3_digest 50 = .ok (.aload_n 0, 1) := by decide +kernel
theorem dX3_digest_51 : decode cX3_digest 51 = .ok (.aload_n 0, 1) := by decide +kernel
theorem dX3_digest_52 : decode cX3_digest 52 = .ok (.iload_n 1, 1) := by decide +kernel
theorem dX3_digest_53 : decode cX3_digest 53 = .ok (.iload_n 2, 1) := by decide +kernel
theorem dX3_digest_54 : decode cX3_digest 54 = .ok (.invokevirtual 135, 3) := by decide +kernel
theorem dX3_digest_57 : decode cX3_digest 57 = .ok (.i2l, 1) := by decide +kernel
theorem dX3_digest_58 : decode cX3_digest 58 = .ok (.invokevirtual 216, 3) := by decide +kernel
theorem dX3_digest_61 : decode cX3_digest 61 = .ok (.iinc 2 1, 3) := by decide +kernel
theorem dX3_digest_64 : decode cX3_digest 64 = .ok (.goto (-19), 3) := by decide +kernel
theorem dX3_digest_67 : decode cX3_digest 67 = .ok (.aload_n 0, 1) := by decide +kernel
theorem dX3_digest_68 : decode cX3_digest 68 = .ok (.aload_n 0, 1) := by decide +kernel
theorem dX3_digest_69 : decode cX3_digest 69 = .ok (.iload_n 1, 1) := by decide +kernel
theorem dX3_digest_70 : decode cX3_digest 70 = .ok (.iconst 0, 1) := by decide +kernel
theorem dX3_digest_71 : decode cX3_digest 71 = .ok (.invokevirtual 163, 3) := by decide +kernel
theorem dX3_digest_74 : decode cX3_digest 74 = .ok (.i2l, 1) := by decide +kernel
theorem dX3_digest_75 : decode cX3_digest 75 = .ok (.invokevirtual 216, 3) := by decide +kernel
theorem dX3_digest_78 : decode cX3_digest 78 = .ok (.aload_n 0, 1) := by decide +kernel
theorem dX3_digest_79 : decode cX3_digest 79 = .ok (.aload_n 0, 1) := by decide +kernel
theorem dX3_digest_80 : decode cX3_digest 80 = .ok (.iload_n 1, 1) := by decide +kernel
theorem dX3_digest_81 : decode cX3_digest 81 = .ok (.iconst 1, 1) := by decide +kernel
theorem dX3_digest_82 : decode cX3_digest 82 = .ok (.invokevirtual 163, 3) := by decide +kernel
theorem dX3_digest_85 : decode cX3_digest 85 = .ok (.i2l, 1) := by decide +kernel
theorem dX3_digest_86 : decode cX3_digest 86 = .ok (.invokevirtual 216, 3) := by decide +kernel
theorem dX3_digest_89 : decode cX3_digest 89 = .ok (.iinc 1 1, 3) := by decide +kernel
theorem dX3_digest_92 : decode cX3_digest 92 = .ok (.goto (-57), 3) := by decide +kernel
theorem dX3_digest_95 : decode cX3_digest 95 = .ok (.iconst 0, 1) := by decide +kernel
theorem dX3_digest_96 : decode cX3_digest 96 = .ok (.istore_n 1, 1) := by decide +kernel
theorem dX3_digest_97 : decode cX3_digest 97 = .ok (.iload_n 1, 1) := by decide +kernel
theorem dX3_digest_98 : decode cX3_digest 98 = .ok (.aload_n 0, 1) := by decide +kernel
theorem dX3_digest_99 : decode cX3_digest 99 = .ok (.getfield 60, 3) := by decide +kernel
theorem dX3_digest_102 : decode cX3_digest 102 = .ok (.if_icmp .ge 20, 3) := by decide +kernel
theorem dX3_digest_105 : decode cX3_digest 105 = .ok (.aload_n 0, 1) := by decide +kernel
theorem dX3_digest_106 : decode cX3_digest 106 = .ok (.aload_n 0, 1) := by decide +kernel
theorem dX3_digest_107 : decode cX3_digest 107 = .ok (.getfield 34, 3) := by decide +kernel
theorem dX3_digest_110 : decode cX3_digest 110 = .ok (.iload_n 1, 1) := by decide +kernel
theorem dX3_digest_111 : decode cX3_digest 111 = .ok (.baload, 1) := by decide +kernel
theorem dX3_digest_112 : decode cX3_digest 112 = .ok (.i2l, 1) := by decide +kernel
theorem dX3_digest_113 : decode cX3_digest 113 = .ok (.invokevirtual 216, 3) := by decide +kernel
theorem dX3_digest_116 : decode cX3_digest 116 = .ok (.iinc 1 1, 3) := by decide +kernel
theorem dX3_digest_119 : decode cX3_digest 119 = .ok (.goto (-22), 3) := by decide +kernel
theorem dX3_digest_122 : decode cX3_digest 122 = .ok (.iconst 0, 1) := by decide +kernel
theorem dX3_digest_123 : decode cX3_digest 123 = .ok (.istore_n 1, 1) := by decide +kernel
theorem dX3_digest_124 : decode cX3_digest 124 = .ok (.iload_n 1, 1) := by decide +kernel
theorem dX3_digest_125 : decode cX3_digest 125 = .ok (.bipush 8, 2) := by decide +kernel
theorem dX3_digest_127 : decode cX3_digest 127 = .ok (.if_icmp .ge 19, 3) := by decide +kernel
theorem dX3_digest_130 : decode cX3_digest 130 = .ok (.aload_n 0, 1) := by decide +kernel
theorem dX3_digest_131 : decode cX3_digest 131 = .ok (.aload_n 0, 1) := by decide +kernel
theorem dX3_digest_132 : decode cX3_digest 132 = .ok (.iload_n 1, 1) := by decide +kernel
theorem dX3_digest_133 : decode cX3_digest 133 = .ok (.invokevirtual 208, 3) := by decide +kernel
theorem dX3_digest_136 : decode cX3_digest 136 = .ok (.i2l, 1) := by decide +kernel
theorem dX3_digest_137 : decode cX3_digest 137 = .ok (.invokevirtual 216, 3) := by decide +kernel
theorem dX3_digest_140 : decode cX3_digest 140 = .ok (.iinc 1 1, 3) := by decide +kernel
theorem dX3_digest_143 : decode cX3_digest 143 = .ok (.goto (-19), 3) := by decide +kernel
theorem dX3_digest_146 : decode cX3_digest 146 = .ok (.aload_n 0, 1) := by decide +kernel
theorem dX3_digest_147 : decode cX3_digest 147 = .ok (.getfield 213, 3) := by decide +kernel
theorem dX3_digest_150 : decode cX3_digest 150 = .ok (.lreturn, 1) := by decide +kernel
theorem dJ6_bitCount_0f7a4_0 : decode cJ6_bitCount_0f7a4 0 = .ok (.iload_n 0, 1) := by decide +kernel
theorem dJ6_bitCount_0f7a4_1 : decode cJ6_bitCount_0f7a4 1 = .ok (.iload_n 0, 1) := by decide +kernel
theorem dJ6_bitCount_0f7a4_2 : decode cJ6_bitCount_0f7a4 2 = .ok (.iconst 1, 1) := by decide +kernel
theorem dJ6_bitCount_0f7a4_3 : decode cJ6_bitCount_0f7a4 3 = .ok (.iushr, 1) := by decide +kernel
theorem dJ6_bitCount_0f7a4_4 : decode cJ6_bitCount_0f7a4 4 = .ok (.ldc_w 265, 3) := by decide +kernel
theorem dJ6_bitCount_0f7a4_7 : decode cJ6_bitCount_0f7a4 7 = .ok (.iand, 1) := by decide +kernel
theorem dJ6_bitCount_0f7a4_8 : decode cJ6_bitCount_0f7a4 8 = .ok (.isub, 1) := by decide +kernel
theorem dJ6_bitCount_0f7a4_9 : decode cJ6_bitCount_0f7a4 9 = .ok (.istore_n 0, 1) := by decide +kernel
theorem dJ6_bitCount_0f7a4_10 : decode cJ6_bitCount_0f7a4 10 = .ok (.iload_n 0, 1) := by decide +kernel
theorem dJ6_bitCount_0f7a4_11 : decode cJ6_bitCount_0f7a4 11 = .ok (.ldc_w 266, 3) := by decide +kernel
theorem dJ6_bitCount_0f7a4_14 : decode cJ6_bitCount_0f7a4 14 = .ok (.iand, 1) := by decide +kernel
theorem dJ6_bitCount_0f7a4_15 : decode cJ6_bitCount_0f7a4 15 = .ok (.iload_n 0, 1) := by decide +kernel
theorem dJ6_bitCount_0f7a4_16 : decode cJ6_bitCount_0f7a4 16 = .ok (.iconst 2, 1) := by decide +kernel
theorem dJ6_bitCount_0f7a4_17 : decode cJ6_bitCount_0f7a4 17 = .ok (.iushr, 1) := by decide +kernel
theorem dJ6_bitCount_0f7a4_18 : decode cJ6_bitCount_0f7a4 18 = .ok (.ldc_w 266, 3) := by decide +kernel
theorem dJ6_bitCount_0f7a4_21 : decode cJ6_bitCount_0f7a4 21 = .ok (.iand, 1) := by decide +kernel
theorem dJ6_bitCount_0f7a4_22 : decode cJ6_bitCount_0f7a4 22 = .ok (.iadd, 1) := by decide +kernel
theorem dJ6_bitCount_0f7a4_23 : decode cJ6_bitCount_0f7a4 23 = .ok (.istore_n 0, 1) := by decide +kernel
theorem dJ6_bitCount_0f7a4_24 : decode cJ6_bitCount_0f7a4 24 = .ok (.iload_n 0, 1) := by decide +kernel
theorem dJ6_bitCount_0f7a4_25 : decode cJ6_bitCount_0f7a4 25 = .ok (.iload_n 0, 1) := by decide +kernel
theorem dJ6_bitCount_0f7a4_26 : decode cJ6_bitCount_0f7a4 26 = .ok (.iconst 4, 1) := by decide +kernel
theorem dJ6_bitCount_0f7a4_27 : decode cJ6_bitCount_0f7a4 27 = .ok (.iushr, 1) := by decide +kernel
theorem dJ6_bitCount_0f7a4_28 : decode cJ6_bitCount_0f7a4 28 = .ok (.iadd, 1) := by decide +kernel
theorem dJ6_bitCount_0f7a4_29 : decode cJ6_bitCount_0f7a4 29 = .ok (.ldc_w 267, 3) := by decide +kernel
theorem dJ6_bitCount_0f7a4_32 : decode cJ6_bitCount_0f7a4 32 = .ok (.iand, 1) := by decide +kernel
theorem dJ6_bitCount_0f7a4_33 : decode cJ6_bitCount_0f7a4 33 = .ok (.istore_n 0, 1) := by decide +kernel
theorem dJ6_bitCount_0f7a4_34 : decode cJ6_bitCount_0f7a4 34 = .ok (.iload_n 0, 1) := by decide +kernel
theorem dJ6_bitCount_0f7a4_35 : decode cJ6_bitCount_0f7a4 35 = .ok (.iload_n 0, 1) := by decide +kernel
theorem dJ6_bitCount_0f7a4_36 : decode cJ6_bitCount_0f7a4 36 = .ok (.bipush 8, 2) := by decide +kernel
theorem dJ6_bitCount_0f7a4_38 : decode cJ6_bitCount_0f7a4 38 = .ok (.iushr, 1) := by decide +kernel
theorem dJ6_bitCount_0f7a4_39 : decode cJ6_bitCount_0f7a4 39 = .ok (.iadd, 1) := by decide +kernel
theorem dJ6_bitCount_0f7a4_40 : decode cJ6_bitCount_0f7a4 40 = .ok (.istore_n 0, 1) := by decide +kernel
theorem dJ6_bitCount_0f7a4_41 : decode cJ6_bitCount_0f7a4 41 = .ok (.iload_n 0, 1) := by decide +kernel
theorem dJ6_bitCount_0f7a4_42 : decode cJ6_bitCount_0f7a4 42 = .ok (.iload_n 0, 1) := by decide +kernel
theorem dJ6_bitCount_0f7a4_43 : decode cJ6_bitCount_0f7a4 43 = .ok (.bipush 16, 2) := by decide +kernel
theorem dJ6_bitCount_0f7a4_45 : decode cJ6_bitCount_0f7a4 45 = .ok (.iushr, 1) := by decide +kernel
theorem dJ6_bitCount_0f7a4_46 : decode cJ6_bitCount_0f7a4 46 = .ok (.iadd, 1) := by decide +kernel
theorem dJ6_bitCount_0f7a4_47 : decode cJ6_bitCount_0f7a4 47 = .ok (.istore_n 0, 1) := by decide +kernel
theorem dJ6_bitCount_0f7a4_48 : decode cJ6_bitCount_0f7a4 48 = .ok (.iload_n 0, 1) := by decide +kernel
theorem dJ6_bitCount_0f7a4_49 : decode cJ6_bitCount_0f7a4 49 = .ok (.bipush 63, 2) := by decide +kernel
theorem dJ6_bitCount_0f7a4_51 : decode cJ6_bitCount_0f7a4 51 = .ok (.iand, 1) := by decide +kernel
theorem dJ6_bitCount_0f7a4_52 : decode cJ6_bitCount_0f7a4 52 = .ok (.ireturn, 1) := by decide +kernel
set_option maxRecDepth 20000 in
theorem ggL_law_X2_init : GoodIn wsL_law wsX2_init := goodIn_r _ [8, 9, 10, 11, 12, 13, 14, 15, 16, 17, 18, 19, 20, 21, 22, 23, 24, 25, 26, 27, 28, 29, 30, 31, 32, 33, 34, 35, 580, 581, 582, 583, 584, 585, 586, 587, 588, 589, 619, 620, 621, 622, 623, 624, 625, 626, 627, 628, 629, 630, 631, 632, 633, 634] (by decide +kernel) (by decide +kernel)
set_option maxRecDepth 20000 in
theorem gL_law_X2_init : GoodIn wsL_law (wsX2_init) := ggL_law_X2_init
set_option maxRecDepth 20000 in
theorem ggL_law_X3_init : GoodIn wsL_law wsX3_init := goodIn_r _ [38, 39, 10, 11, 12, 40, 41, 42, 43, 44, 45, 46, 47, 48, 49, 50, 51, 52, 53, 54, 55, 590, 591, 592, 593, 594, 595, 596, 597, 598, 599, 600, 601, 602, 603, 604, 605, 606, 607, 608, 609, 610, 611, 612, 613, 614, 615, 616, 617, 618] (by decide +kernel) (by decide +kernel)
set_option maxRecDepth 20000 in
theorem gL_law_X3_init : GoodIn wsL_law (wsX3_init) := ggL_law_X3_init
set_option maxRecDepth 20000 in
theorem ggL_law_X2_letter : GoodIn wsL_law wsX2_letter := goodIn_r _ [59, 60, 13, 580, 581, 582, 583, 584, 585, 586, 587, 588, 589] (by decide +kernel) (by decide +kernel)
set_option maxRecDepth 20000 in
theorem gL_law_X2_letter : GoodIn wsL_law (wsV RL 13 RX2 yX2_letter wsX2_letter) := goodIn_app (goodIn_of _ (by decide +kernel)) ggL_law_X2_letter
set_option maxRecDepth 20000 in
theorem ggL_law_X3_letter : GoodIn wsL_law wsX3_letter := goodIn_r _ [64, 65, 49, 66, 67, 5, 68, 590, 591, 592, 593, 594, 595, 596, 597, 598, 599, 600, 601, 602, 603, 604, 605, 606, 607, 608, 609, 610, 611, 612, 613, 614, 615, 616, 617, 618] (by decide +kernel) (by decide +kernel)
set_option maxRecDepth 20000 in
theorem gL_law_X3_letter : GoodIn wsL_law (wsV RL 17 RX3 yX3_letter wsX3_letter) := goodIn_app (goodIn_of _ (by decide +kernel)) ggL_law_X3_letter
set_option maxRecDepth 20000 in
theorem ggL_law_X2_blank : GoodIn wsL_law wsX2_blank := goodIn_r _ [72, 60, 580, 581, 582, 583, 584, 585, 586, 587, 588, 589] (by decide +kernel) (by decide +kernel)
set_option maxRecDepth 20000 in
theorem gL_law_X2_blank : GoodIn wsL_law (wsV RL 18 RX2 yX2_blank wsX2_blank) := goodIn_app (goodIn_of _ (by decide +kernel)) ggL_law_X2_blank
set_option maxRecDepth 20000 in
theorem ggL_law_X3_blank : GoodIn wsL_law wsX3_blank := goodIn_r _ [76, 65, 590, 591, 592, 593, 594, 595, 596, 597, 598, 599, 600, 601, 602, 603, 604, 605, 606, 607, 608, 609, 610, 611, 612, 613, 614, 615, 616, 617, 618] (by decide +kernel) (by decide +kernel)
set_option maxRecDepth 20000 in
theorem gL_law_X3_blank : GoodIn wsL_law (wsV RL 22 RX3 yX3_blank wsX3_blank) := goodIn_app (goodIn_of _ (by decide +kernel)) ggL_law_X3_blank
set_option maxRecDepth 20000 in
theorem ggL_law_X2_fault : GoodIn wsL_law wsX2_fault := goodIn_r _ [80, 81, 82, 83, 2, 84, 60, 13, 85, 86, 87, 580, 581, 582, 583, 584, 585, 586, 587, 588, 589] (by decide +kernel) (by decide +kernel)
set_option maxRecDepth 20000 in
theorem gL_law_X2_fault : GoodIn wsL_law (wsV RL 23 RX2 yX2_fault wsX2_fault) := goodIn_app (goodIn_of _ (by decide +kernel)) ggL_law_X2_fault
set_option maxRecDepth 20000 in
theorem ggL_law_X3_fault : GoodIn wsL_law wsX3_fault := goodIn_r _ [91, 92, 93, 94, 5, 95, 65, 49, 96, 97, 98, 66, 67, 68, 590, 591, 592, 593, 594, 595, 596, 597, 598, 599, 600, 601, 602, 603, 604, 605, 606, 607, 608, 609, 610, 611, 612, 613, 614, 615, 616, 617, 618] (by decide +kernel) (by decide +kernel)
set_option maxRecDepth 20000 in
theorem gL_law_X3_fault : GoodIn wsL_law (wsV RL 26 RX3 yX3_fault wsX3_fault) := goodIn_app (goodIn_of _ (by decide +kernel)) ggL_law_X3_fault
set_option maxRecDepth 20000 in
theorem ggL_law_X2_chest : GoodIn wsL_law wsX2_chest := goodIn_r _ [102, 60, 14, 13, 18, 103, 104, 105, 81, 82, 83, 2, 84, 85, 86, 87, 106, 107, 108, 109, 110, 111, 17, 112, 113, 114, 30, 115, 116, 117, 118, 119, 31, 32, 580, 581, 582, 583, 584, 585, 586, 587, 588, 589, 619, 620, 621, 622, 623, 624, 625, 626, 627] (by decide +kernel) (by decide +kernel)
set_option maxRecDepth 20000 in
theorem gL_law_X2_chest : GoodIn wsL_law (wsV RL 27 RX2 yX2_chest wsX2_chest) := goodIn_app (goodIn_of _ (by decide +kernel)) ggL_law_X2_chest
set_option maxRecDepth 20000 in
theorem ggL_law_X3_chest : GoodIn wsL_law wsX3_chest := goodIn_r _ [123, 65, 40, 49, 41, 124, 125, 126, 127, 128, 92, 93, 94, 5, 95, 96, 97, 98, 66, 67, 68, 590, 591, 592, 593, 594, 595, 596, 597, 598, 599, 600, 601, 602, 603, 604, 605, 606, 607, 608, 609, 610, 611, 612, 613, 614, 615, 616, 617, 618] (by decide +kernel) (by decide +kernel)
set_option maxRecDepth 20000 in
theorem gL_law_X3_chest : GoodIn wsL_law (wsV RL 30 RX3 yX3_chest wsX3_chest) := goodIn_app (goodIn_of _ (by decide +kernel)) ggL_law_X3_chest
set_option maxRecDepth 20000 in
theorem ggL_law_X2_face : GoodIn wsL_law wsX2_face := goodIn_r _ [132, 103, 18, 133, 580, 581, 582, 583, 584, 585, 586, 587, 588, 589, 619, 620, 621, 622, 623, 624, 625, 626, 627] (by decide +kernel) (by decide +kernel)
set_option maxRecDepth 20000 in
theorem gL_law_X2_face : GoodIn wsL_law (wsV RL 31 RX2 yX2_face wsX2_face) := goodIn_app (goodIn_of _ (by decide +kernel)) ggL_law_X2_face
set_option maxRecDepth 20000 in
theorem ggL_law_X3_face : GoodIn wsL_law wsX3_face := goodIn_r _ [137, 125, 124, 66, 67, 5, 68, 590, 591, 592, 593, 594, 595, 596, 597, 598, 599, 600, 601, 602, 603, 604, 605, 606, 607, 608, 609, 610, 611, 612, 613, 614, 615, 616, 617, 618] (by decide +kernel) (by decide +kernel)
set_option maxRecDepth 20000 in
theorem gL_law_X3_face : GoodIn wsL_law (wsV RL 34 RX3 yX3_face wsX3_face) := goodIn_app (goodIn_of _ (by decide +kernel)) ggL_law_X3_face
set_option maxRecDepth 20000 in
theorem ggL_law_X2_drawer : GoodIn wsL_law wsX2_drawer := goodIn_r _ [141, 14, 18, 142, 143, 144, 145, 2, 146, 103, 147, 148, 149, 150, 133, 151, 152, 153, 17, 154, 114, 28, 155, 156, 157, 158, 159, 160, 161, 162, 23, 163, 164, 165, 166, 167, 168, 169, 22, 170, 171, 172, 173, 174, 175, 176, 177, 178, 179, 180, 181, 182, 183, 184, 185, 186, 187, 188, 189, 190, 191, 192, 193, 194, 195, 196, 197, 198, 199, 200, 201, 202, 203, 204, 205, 206, 207, 208, 209, 210, 211, 212, 213, 214, 215, 216, 217, 218, 580, 581, 582, 583, 584, 585, 586, 587, 588, 589, 619, 620, 621, 622, 623, 624, 625, 626, 627, 628, 629, 630, 631, 632, 633, 634] (by decide +kernel) (by decide +kernel)
set_option maxRecDepth 20000 in
theorem gL_law_X2_drawer : GoodIn wsL_law (wsV RL 35 RX2 yX2_drawer wsX2_drawer) := goodIn_app (goodIn_of _ (by decide +kernel)) ggL_law_X2_drawer
set_option maxRecDepth 20000 in
theorem ggL_law_X3_drawer : GoodIn wsL_law wsX3_drawer := goodIn_r _ [222, 223, 224, 225, 5, 226, 125, 66, 67, 68, 227, 228, 229, 230, 40, 41, 231, 232, 233, 234, 124, 235, 236, 237, 238, 127, 43, 239, 240, 241, 242, 243, 244, 245, 246, 247, 248, 249, 250, 251, 252, 253, 254, 42, 44, 255, 256, 257, 258, 259, 260, 261, 262, 263, 264, 265, 266, 267, 268, 590, 591, 592, 593, 594, 595, 596, 597, 598, 599, 600, 601, 602, 603, 604, 605, 606, 607, 608, 609, 610, 611, 612, 613, 614, 615, 616, 617, 618] (by decide +kernel) (by decide +kernel)
set_option maxRecDepth 20000 in
theorem gL_law_X3_drawer : GoodIn wsL_law (wsV RL 39 RX3 yX3_drawer wsX3_drawer) := goodIn_app (goodIn_of _ (by decide +kernel)) ggL_law_X3_drawer
set_option maxRecDepth 20000 in
theorem ggL_law_X2_person : GoodIn wsL_law wsX2_person := goodIn_r _ [272, 18, 163, 165, 164, 166, 273, 274, 2, 275, 143, 144, 145, 146, 103, 276, 277, 278, 580, 581, 582, 583, 584, 585, 586, 587, 588, 589, 619, 620, 621, 622, 623, 624, 625, 626, 627] (by decide +kernel) (by decide +kernel)
set_option maxRecDepth 20000 in
theorem gL_law_X2_person : GoodIn wsL_law (wsV RL 40 RX2 yX2_person wsX2_person) := goodIn_app (goodIn_of _ (by decide +kernel)) ggL_law_X2_person
set_option maxRecDepth 20000 in
theorem ggL_law_X3_person : GoodIn wsL_law wsX3_person := goodIn_r _ [282, 127, 42, 43, 44, 66, 67, 5, 68, 223, 224, 225, 226, 125, 283, 284, 285, 590, 591, 592, 593, 594, 595, 596, 597, 598, 599, 600, 601, 602, 603, 604, 605, 606, 607, 608, 609, 610, 611, 612, 613, 614, 615, 616, 617, 618] (by decide +kernel) (by decide +kernel)
set_option maxRecDepth 20000 in
theorem gL_law_X3_person : GoodIn wsL_law (wsV RL 44 RX3 yX3_person wsX3_person) := goodIn_app (goodIn_of _ (by decide +kernel)) ggL_law_X3_person
set_option maxRecDepth 20000 in
theorem ggL_law_X2_about : GoodIn wsL_law wsX2_about := goodIn_r _ [289, 18, 165, 166, 164, 290, 291, 292, 2, 293, 163, 294, 179, 180, 295, 213, 214, 296, 181, 182, 580, 581, 582, 583, 584, 585, 586, 587, 588, 589, 619, 620, 621, 622, 623, 624, 625, 626, 627] (by decide +kernel) (by decide +kernel)
set_option maxRecDepth 20000 in
theorem gL_law_X2_about : GoodIn wsL_law (wsV RL 45 RX2 yX2_about wsX2_about) := goodIn_app (goodIn_of _ (by decide +kernel)) ggL_law_X2_about
set_option maxRecDepth 20000 in
theorem ggL_law_X3_about : GoodIn wsL_law wsX3_about := goodIn_r _ [300, 66, 67, 5, 68, 301, 302, 303, 304, 127, 305, 306, 307, 308, 42, 44, 43, 258, 259, 260, 590, 591, 592, 593, 594, 595, 596, 597, 598, 599, 600, 601, 602, 603, 604, 605, 606, 607, 608, 609, 610, 611, 612, 613, 614, 615, 616, 617, 618] (by decide +kernel) (by decide +kernel)
set_option maxRecDepth 20000 in
theorem gL_law_X3_about : GoodIn wsL_law (wsV RL 48 RX3 yX3_about wsX3_about) := goodIn_app (goodIn_of _ (by decide +kernel)) ggL_law_X3_about
set_option maxRecDepth 20000 in
theorem ggL_law_X2_as : GoodIn wsL_law wsX2_as := goodIn_r _ [312, 18, 165, 290, 291, 292, 2, 293, 163, 273, 274, 275, 313, 314, 315, 580, 581, 582, 583, 584, 585, 586, 587, 588, 589, 619, 620, 621, 622, 623, 624, 625, 626, 627] (by decide +kernel) (by decide +kernel)
set_option maxRecDepth 20000 in
theorem gL_law_X2_as : GoodIn wsL_law (wsV RL 49 RX2 yX2_as wsX2_as) := goodIn_app (goodIn_of _ (by decide +kernel)) ggL_law_X2_as
set_option maxRecDepth 20000 in
theorem ggL_law_X3_as : GoodIn wsL_law wsX3_as := goodIn_r _ [319, 42, 301, 302, 303, 5, 304, 127, 66, 67, 68, 590, 591, 592, 593, 594, 595, 596, 597, 598, 599, 600, 601, 602, 603, 604, 605, 606, 607, 608, 609, 610, 611, 612, 613, 614, 615, 616, 617, 618] (by decide +kernel) (by decide +kernel)
set_option maxRecDepth 20000 in
theorem gL_law_X3_as : GoodIn wsL_law (wsV RL 52 RX3 yX3_as wsX3_as) := goodIn_app (goodIn_of _ (by decide +kernel)) ggL_law_X3_as
set_option maxRecDepth 20000 in
theorem ggL_law_X2_move : GoodIn wsL_law wsX2_move := goodIn_r _ [323, 18, 164, 290, 291, 292, 2, 293, 163, 143, 144, 145, 146, 103, 580, 581, 582, 583, 584, 585, 586, 587, 588, 589, 619, 620, 621, 622, 623, 624, 625, 626, 627] (by decide +kernel) (by decide +kernel)
set_option maxRecDepth 20000 in
theorem gL_law_X2_move : GoodIn wsL_law (wsV RL 53 RX2 yX2_move wsX2_move) := goodIn_app (goodIn_of _ (by decide +kernel)) ggL_law_X2_move
set_option maxRecDepth 20000 in
theorem ggL_law_X3_move : GoodIn wsL_law wsX3_move := goodIn_r _ [327, 43, 301, 302, 303, 5, 304, 127, 66, 67, 68, 223, 224, 225, 226, 125, 590, 591, 592, 593, 594, 595, 596, 597, 598, 599, 600, 601, 602, 603, 604, 605, 606, 607, 608, 609, 610, 611, 612, 613, 614, 615, 616, 617, 618] (by decide +kernel) (by decide +kernel)
set_option maxRecDepth 20000 in
theorem gL_law_X3_move : GoodIn wsL_law (wsV RL 56 RX3 yX3_move wsX3_move) := goodIn_app (goodIn_of _ (by decide +kernel)) ggL_law_X3_move
set_option maxRecDepth 20000 in
theorem ggL_law_X2_lay : GoodIn wsL_law wsX2_lay := goodIn_r _ [331, 18, 142, 143, 144, 145, 2, 146, 103, 276, 277, 278, 295, 213, 214, 580, 581, 582, 583, 584, 585, 586, 587, 588, 589, 619, 620, 621, 622, 623, 624, 625, 626, 627] (by decide +kernel) (by decide +kernel)
set_option maxRecDepth 20000 in
theorem gL_law_X2_lay : GoodIn wsL_law (wsV RL 57 RX2 yX2_lay wsX2_lay) := goodIn_app (goodIn_of _ (by decide +kernel)) ggL_law_X2_lay
set_option maxRecDepth 20000 in
theorem ggL_law_X3_lay : GoodIn wsL_law wsX3_lay := goodIn_r _ [335, 41, 223, 224, 225, 5, 226, 125, 66, 67, 68, 283, 284, 285, 590, 591, 592, 593, 594, 595, 596, 597, 598, 599, 600, 601, 602, 603, 604, 605, 606, 607, 608, 609, 610, 611, 612, 613, 614, 615, 616, 617, 618] (by decide +kernel) (by decide +kernel)
set_option maxRecDepth 20000 in
theorem gL_law_X3_lay : GoodIn wsL_law (wsV RL 61 RX3 yX3_lay wsX3_lay) := goodIn_app (goodIn_of _ (by decide +kernel)) ggL_law_X3_lay
set_option maxRecDepth 20000 in
theorem ggL_law_X2_agrees : GoodIn wsL_law wsX2_agrees := goodIn_r _ [339, 143, 144, 145, 2, 146, 103, 159, 160, 161, 162, 23, 18, 142, 163, 164, 165, 166, 147, 148, 149, 150, 133, 14, 167, 168, 169, 22, 170, 171, 172, 173, 174, 175, 176, 177, 178, 179, 180, 181, 182, 340, 191, 192, 193, 580, 581, 582, 583, 584, 585, 586, 587, 588, 589, 619, 620, 621, 622, 623, 624, 625, 626, 627, 628, 629, 630, 631, 632, 633, 634] (by decide +kernel) (by decide +kernel)
set_option maxRecDepth 20000 in
theorem gL_law_X2_agrees : GoodIn wsL_law (wsV RL 62 RX2 yX2_agrees wsX2_agrees) := goodIn_app (goodIn_of _ (by decide +kernel)) ggL_law_X2_agrees
set_option maxRecDepth 20000 in
theorem ggL_law_X3_agrees : GoodIn wsL_law wsX3_agrees := goodIn_r _ [344, 223, 224, 225, 5, 226, 125, 66, 67, 68, 243, 244, 245, 246, 41, 231, 232, 233, 234, 124, 40, 247, 248, 249, 250, 251, 252, 253, 254, 127, 43, 42, 44, 255, 256, 257, 258, 259, 260, 590, 591, 592, 593, 594, 595, 596, 597, 598, 599, 600, 601, 602, 603, 604, 605, 606, 607, 608, 609, 610, 611, 612, 613, 614, 615, 616, 617, 618] (by decide +kernel) (by decide +kernel)
set_option maxRecDepth 20000 in
theorem gL_law_X3_agrees : GoodIn wsL_law (wsV RL 65 RX3 yX3_agrees wsX3_agrees) := goodIn_app (goodIn_of _ (by decide +kernel)) ggL_law_X3_agrees
set_option maxRecDepth 20000 in
theorem ggL_law_X2_sure : GoodIn wsL_law wsX2_sure := goodIn_r _ [348, 143, 144, 145, 2, 146, 103, 276, 277, 278, 155, 156, 157, 158, 159, 160, 161, 162, 23, 18, 142, 163, 164, 165, 166, 147, 148, 149, 150, 133, 14, 167, 168, 169, 22, 170, 171, 172, 173, 174, 175, 176, 177, 178, 179, 180, 181, 182, 183, 184, 185, 186, 187, 188, 189, 190, 191, 192, 193, 194, 195, 196, 197, 349, 350, 351, 352, 213, 214, 580, 581, 582, 583, 584, 585, 586, 587, 588, 589, 619, 620, 621, 622, 623, 624, 625, 626, 627, 628, 629, 630, 631, 632, 633, 634] (by decide +kernel) (by decide +kernel)
set_option maxRecDepth 20000 in
theorem gL_law_X2_sure : GoodIn wsL_law (wsV RL 66 RX2 yX2_sure wsX2_sure) := goodIn_app (goodIn_of _ (by decide +kernel)) ggL_law_X2_sure
set_option maxRecDepth 20000 in
theorem ggL_law_X3_sure : GoodIn wsL_law wsX3_sure := goodIn_r _ [356, 223, 224, 225, 5, 226, 125, 66, 67, 68, 283, 284, 285, 357, 358, 359, 360, 243, 244, 245, 246, 41, 231, 232, 233, 234, 124, 40, 247, 248, 249, 250, 251, 252, 253, 254, 127, 43, 42, 44, 255, 256, 257, 258, 259, 260, 590, 591, 592, 593, 594, 595, 596, 597, 598, 599, 600, 601, 602, 603, 604, 605, 606, 607, 608, 609, 610, 611, 612, 613, 614, 615, 616, 617, 618] (by decide +kernel) (by decide +kernel)
set_option maxRecDepth 20000 in
theorem gL_law_X3_sure : GoodIn wsL_law (wsV RL 69 RX3 yX3_sure wsX3_sure) := goodIn_app (goodIn_of _ (by decide +kernel)) ggL_law_X3_sure
set_option maxRecDepth 20000 in
theorem ggL_law_X2_few : GoodIn wsL_law wsX2_few := goodIn_r _ [364, 365, 143, 144, 145, 2, 146, 103, 159, 160, 161, 162, 23, 18, 142, 163, 164, 165, 166, 147, 148, 149, 150, 133, 14, 167, 168, 169, 22, 170, 171, 172, 173, 174, 175, 176, 177, 178, 179, 180, 181, 182, 366, 367, 368, 369, 370, 203, 204, 205, 206, 207, 208, 183, 184, 185, 186, 187, 188, 189, 190, 191, 192, 193, 194, 195, 196, 197, 371, 372, 373, 374, 580, 581, 582, 583, 584, 585, 586, 587, 588, 589, 619, 620, 621, 622, 623, 624, 625, 626, 627, 628, 629, 630, 631, 632, 633, 634] (by decide +kernel) (by decide +kernel)
set_option maxRecDepth 20000 in
theorem gL_law_X2_few : GoodIn wsL_law (wsV RL 70 RX2 yX2_few wsX2_few) := goodIn_app (goodIn_of _ (by decide +kernel)) ggL_law_X2_few
set_option maxRecDepth 20000 in
theorem ggL_law_X3_few : GoodIn wsL_law wsX3_few := goodIn_r _ [378, 379, 223, 224, 225, 5, 226, 125, 66, 67, 68, 380, 381, 382, 383, 384, 385, 386, 387, 388, 389, 390, 231, 232, 233, 234, 124, 40, 247, 248, 249, 250, 251, 252, 253, 254, 127, 43, 42, 44, 255, 256, 257, 258, 259, 260, 590, 591, 592, 593, 594, 595, 596, 597, 598, 599, 600, 601, 602, 603, 604, 605, 606, 607, 608, 609, 610, 611, 612, 613, 614, 615, 616, 617, 618] (by decide +kernel) (by decide +kernel)
set_option maxRecDepth 20000 in
theorem gL_law_X3_few : GoodIn wsL_law (wsV RL 73 RX3 yX3_few wsX3_few) := goodIn_app (goodIn_of _ (by decide +kernel)) ggL_law_X3_few
set_option maxRecDepth 20000 in
theorem ggL_law_X2_found : GoodIn wsL_law wsX2_found := goodIn_r _ [394, 18, 395, 396, 397, 143, 144, 145, 2, 146, 103, 276, 277, 278, 580, 581, 582, 583, 584, 585, 586, 587, 588, 589, 619, 620, 621, 622, 623, 624, 625, 626, 627] (by decide +kernel) (by decide +kernel)
set_option maxRecDepth 20000 in
theorem gL_law_X2_found : GoodIn wsL_law (wsV RL 74 RX2 yX2_found wsX2_found) := goodIn_app (goodIn_of _ (by decide +kernel)) ggL_law_X2_found
set_option maxRecDepth 20000 in
theorem ggL_law_X3_found : GoodIn wsL_law wsX3_found := goodIn_r _ [401, 128, 45, 46, 47, 223, 224, 225, 5, 226, 125, 66, 67, 68, 283, 284, 285, 590, 591, 592, 593, 594, 595, 596, 597, 598, 599, 600, 601, 602, 603, 604, 605, 606, 607, 608, 609, 610, 611, 612, 613, 614, 615, 616, 617, 618] (by decide +kernel) (by decide +kernel)
set_option maxRecDepth 20000 in
theorem gL_law_X3_found : GoodIn wsL_law (wsV RL 77 RX3 yX3_found wsX3_found) := goodIn_app (goodIn_of _ (by decide +kernel)) ggL_law_X3_found
set_option maxRecDepth 20000 in
theorem ggL_law_X2_forget : GoodIn wsL_law wsX2_forget := goodIn_r _ [405, 18, 395, 406, 116, 117, 17, 118, 119, 31, 32, 580, 581, 582, 583, 584, 585, 586, 587, 588, 589, 619, 620, 621, 622, 623, 624, 625, 626, 627] (by decide +kernel) (by decide +kernel)
set_option maxRecDepth 20000 in
theorem gL_law_X2_forget : GoodIn wsL_law (wsV RL 78 RX2 yX2_forget wsX2_forget) := goodIn_app (goodIn_of _ (by decide +kernel)) ggL_law_X2_forget
set_option maxRecDepth 20000 in
theorem ggL_law_X3_forget : GoodIn wsL_law wsX3_forget := goodIn_r _ [410, 128, 590, 591, 592, 593, 594, 595, 596, 597, 598, 599, 600, 601, 602, 603, 604, 605, 606, 607, 608, 609, 610, 611, 612, 613, 614, 615, 616, 617, 618] (by decide +kernel) (by decide +kernel)
set_option maxRecDepth 20000 in
theorem gL_law_X3_forget : GoodIn wsL_law (wsV RL 81 RX3 yX3_forget wsX3_forget) := goodIn_app (goodIn_of _ (by decide +kernel)) ggL_law_X3_forget
set_option maxRecDepth 20000 in
theorem ggL_law_X2_delays : GoodIn wsL_law wsX2_delays := goodIn_r _ [414, 415, 143, 144, 145, 2, 146, 103, 159, 160, 161, 162, 23, 18, 142, 163, 164, 165, 166, 147, 148, 149, 150, 133, 14, 167, 168, 169, 22, 170, 171, 172, 173, 174, 175, 176, 177, 178, 179, 180, 181, 182, 183, 184, 185, 186, 187, 188, 189, 190, 191, 192, 193, 194, 195, 196, 197, 416, 417, 418, 419, 396, 397, 420, 421, 422, 423, 628, 629, 630, 631, 632, 633, 634, 580, 581, 582, 583, 584, 585, 586, 587, 588, 589, 619, 620, 621, 622, 623, 624, 625, 626, 627] (by decide +kernel) (by decide +kernel)
set_option maxRecDepth 20000 in
theorem gL_law_X2_delays : GoodIn wsL_law (wsV RL 82 RX2 yX2_delays wsX2_delays) := goodIn_app (goodIn_of _ (by decide +kernel)) ggL_law_X2_delays
set_option maxRecDepth 20000 in
theorem ggL_law_X3_delays : GoodIn wsL_law wsX3_delays := goodIn_r _ [427, 223, 224, 225, 5, 226, 125, 66, 67, 68, 428, 429, 430, 431, 432, 433, 434, 435, 41, 436, 437, 438, 439, 128, 45, 46, 47, 247, 248, 249, 250, 251, 252, 253, 254, 127, 43, 42, 44, 255, 256, 257, 258, 259, 260, 590, 591, 592, 593, 594, 595, 596, 597, 598, 599, 600, 601, 602, 603, 604, 605, 606, 607, 608, 609, 610, 611, 612, 613, 614, 615, 616, 617, 618] (by decide +kernel) (by decide +kernel)
set_option maxRecDepth 20000 in
theorem gL_law_X3_delays : GoodIn wsL_law (wsV RL 85 RX3 yX3_delays wsX3_delays) := goodIn_app (goodIn_of _ (by decide +kernel)) ggL_law_X3_delays
set_option maxRecDepth 20000 in
theorem ggL_law_X2_who : GoodIn wsL_law wsX2_who := goodIn_r _ [443, 290, 291, 292, 2, 293, 18, 163, 444, 445, 446, 447, 164, 159, 160, 161, 162, 23, 142, 165, 166, 147, 148, 149, 150, 133, 14, 167, 168, 169, 22, 170, 171, 172, 173, 174, 175, 176, 177, 178, 179, 180, 181, 182, 183, 184, 185, 186, 187, 188, 189, 190, 191, 192, 193, 194, 195, 196, 197, 416, 417, 418, 419, 396, 397, 420, 421, 422, 423, 580, 581, 582, 583, 584, 585, 586, 587, 588, 589, 619, 620, 621, 622, 623, 624, 625, 626, 627, 628, 629, 630, 631, 632, 633, 634] (by decide +kernel) (by decide +kernel)
set_option maxRecDepth 20000 in
theorem gL_law_X2_who : GoodIn wsL_law (wsV RL 86 RX2 yX2_who wsX2_who) := goodIn_app (goodIn_of _ (by decide +kernel)) ggL_law_X2_who
set_option maxRecDepth 20000 in
theorem ggL_law_X3_who : GoodIn wsL_law wsX3_who := goodIn_r _ [451, 301, 302, 303, 5, 304, 127, 66, 67, 68, 452, 453, 454, 455, 42, 44, 43, 231, 232, 233, 234, 124, 40, 432, 433, 434, 435, 41, 436, 437, 438, 439, 128, 45, 46, 47, 247, 248, 249, 250, 251, 252, 253, 254, 255, 256, 257, 258, 259, 260, 590, 591, 592, 593, 594, 595, 596, 597, 598, 599, 600, 601, 602, 603, 604, 605, 606, 607, 608, 609, 610, 611, 612, 613, 614, 615, 616, 617, 618] (by decide +kernel) (by decide +kernel)
set_option maxRecDepth 20000 in
theorem gL_law_X3_who : GoodIn wsL_law (wsV RL 89 RX3 yX3_who wsX3_who) := goodIn_app (goodIn_of _ (by decide +kernel)) ggL_law_X3_who
set_option maxRecDepth 20000 in
theorem ggL_law_X2_weeks : GoodIn wsL_law wsX2_weeks := goodIn_r _ [459, 103, 369, 460, 159, 160, 161, 2, 162, 23, 18, 142, 163, 164, 165, 166, 147, 148, 149, 150, 133, 14, 167, 168, 169, 22, 170, 171, 172, 173, 174, 175, 176, 177, 178, 179, 180, 181, 182, 461, 462, 463, 464, 465, 466, 467, 468, 469, 183, 184, 185, 186, 187, 188, 189, 190, 191, 192, 193, 194, 195, 196, 197, 580, 581, 582, 583, 584, 585, 586, 587, 588, 589, 628, 629, 630, 631, 632, 633, 634, 619, 620, 621, 622, 623, 624, 625, 626, 627] (by decide +kernel) (by decide +kernel)
set_option maxRecDepth 20000 in
theorem gL_law_X2_weeks : GoodIn wsL_law (wsV RL 90 RX2 yX2_weeks wsX2_weeks) := goodIn_app (goodIn_of _ (by decide +kernel)) ggL_law_X2_weeks
set_option maxRecDepth 20000 in
theorem ggL_law_X3_weeks : GoodIn wsL_law wsX3_weeks := goodIn_r _ [473, 125, 66, 67, 5, 68, 474, 475, 476, 477, 478, 479, 480, 481, 482, 483, 484, 485, 486, 487, 488, 489, 490, 231, 232, 233, 234, 124, 40, 247, 248, 249, 250, 251, 252, 253, 254, 127, 43, 42, 44, 255, 256, 257, 258, 259, 260, 590, 591, 592, 593, 594, 595, 596, 597, 598, 599, 600, 601, 602, 603, 604, 605, 606, 607, 608, 609, 610, 611, 612, 613, 614, 615, 616, 617, 618] (by decide +kernel) (by decide +kernel)
set_option maxRecDepth 20000 in
theorem gL_law_X3_weeks : GoodIn wsL_law (wsV RL 93 RX3 yX3_weeks wsX3_weeks) := goodIn_app (goodIn_of _ (by decide +kernel)) ggL_law_X3_weeks
set_option maxRecDepth 20000 in
theorem ggL_law_X2_image : GoodIn wsL_law wsX2_image := goodIn_r _ [494, 103, 19, 18, 104, 163, 495, 496, 497, 17, 498, 113, 114, 119, 27, 28, 29, 30, 31, 32, 580, 581, 582, 583, 584, 585, 586, 587, 588, 589, 619, 620, 621, 622, 623, 624, 625, 626, 627] (by decide +kernel) (by decide +kernel)
set_option maxRecDepth 20000 in
theorem gL_law_X2_image : GoodIn wsL_law (wsV RL 94 RX2 yX2_image wsX2_image) := goodIn_app (goodIn_of _ (by decide +kernel)) ggL_law_X2_image
set_option maxRecDepth 20000 in
theorem ggL_law_X3_image : GoodIn wsL_law wsX3_image := goodIn_r _ [502, 125, 503, 126, 504, 124, 505, 127, 506, 128, 507, 50, 41, 51, 43, 52, 44, 53, 45, 54, 46, 55, 47, 590, 591, 592, 593, 594, 595, 596, 597, 598, 599, 600, 601, 602, 603, 604, 605, 606, 607, 608, 609, 610, 611, 612, 613, 614, 615, 616, 617, 618] (by decide +kernel) (by decide +kernel)
set_option maxRecDepth 20000 in
theorem gL_law_X3_image : GoodIn wsL_law (wsV RL 97 RX3 yX3_image wsX3_image) := goodIn_app (goodIn_of _ (by decide +kernel)) ggL_law_X3_image
set_option maxRecDepth 20000 in
theorem ggL_law_X2_restore : GoodIn wsL_law wsX2_restore := goodIn_r _ [511, 104, 18, 19, 163, 495, 496, 497, 17, 498, 113, 114, 119, 27, 28, 29, 30, 31, 32, 580, 581, 582, 583, 584, 585, 586, 587, 588, 589, 619, 620, 621, 622, 623, 624, 625, 626, 627] (by decide +kernel) (by decide +kernel)
set_option maxRecDepth 20000 in
theorem gL_law_X2_restore : GoodIn wsL_law (wsV RL 98 RX2 yX2_restore wsX2_restore) := goodIn_app (goodIn_of _ (by decide +kernel)) ggL_law_X2_restore
set_option maxRecDepth 20000 in
theorem ggL_law_X3_restore : GoodIn wsL_law wsX3_restore := goodIn_r _ [515, 503, 504, 126, 505, 124, 506, 127, 507, 128, 41, 50, 43, 51, 44, 52, 45, 53, 46, 54, 47, 55, 590, 591, 592, 593, 594, 595, 596, 597, 598, 599, 600, 601, 602, 603, 604, 605, 606, 607, 608, 609, 610, 611, 612, 613, 614, 615, 616, 617, 618] (by decide +kernel) (by decide +kernel)
set_option maxRecDepth 20000 in
theorem gL_law_X3_restore : GoodIn wsL_law (wsV RL 101 RX3 yX3_restore wsX3_restore) := goodIn_app (goodIn_of _ (by decide +kernel)) ggL_law_X3_restore
set_option maxRecDepth 20000 in
theorem ggL_law_X2_count : GoodIn wsL_law wsX2_count := goodIn_r _ [519, 18, 133, 163, 395, 60, 105, 365, 520, 521, 522, 2, 523, 103, 460, 155, 156, 157, 158, 159, 160, 161, 162, 23, 142, 164, 165, 166, 147, 148, 149, 150, 14, 167, 168, 169, 22, 170, 171, 172, 173, 174, 175, 176, 177, 178, 179, 180, 181, 182, 183, 184, 185, 186, 187, 188, 189, 190, 191, 192, 193, 194, 195, 196, 197, 524, 525, 526, 17, 527, 30, 528, 203, 204, 205, 206, 207, 208, 580, 581, 582, 583, 584, 585, 586, 587, 588, 589, 619, 620, 621, 622, 623, 624, 625, 626, 627, 628, 629, 630, 631, 632, 633, 634] (by decide +kernel) (by decide +kernel)
set_option maxRecDepth 20000 in
theorem gL_law_X2_count : GoodIn wsL_law (wsV RL 102 RX2 yX2_count wsX2_count) := goodIn_app (goodIn_of _ (by decide +kernel)) ggL_law_X2_count
set_option maxRecDepth 20000 in
theorem ggL_law_X3_count : GoodIn wsL_law wsX3_count := goodIn_r _ [532, 533, 534, 535, 5, 536, 124, 127, 128, 65, 126, 379, 537, 538, 539, 540, 125, 41, 487, 488, 489, 490, 231, 232, 233, 234, 40, 247, 248, 249, 250, 251, 252, 253, 254, 43, 42, 44, 255, 256, 257, 258, 259, 260, 541, 542, 543, 544, 384, 385, 386, 590, 591, 592, 593, 594, 595, 596, 597, 598, 599, 600, 601, 602, 603, 604, 605, 606, 607, 608, 609, 610, 611, 612, 613, 614, 615, 616, 617, 618] (by decide +kernel) (by decide +kernel)
set_option maxRecDepth 20000 in
theorem gL_law_X3_count : GoodIn wsL_law (wsV RL 105 RX3 yX3_count wsX3_count) := goodIn_app (goodIn_of _ (by decide +kernel)) ggL_law_X3_count
set_option maxRecDepth 20000 in
theorem ggL_law_X2_digest : GoodIn wsL_law wsX2_digest := goodIn_r _ [548, 549, 103, 18, 163, 60, 13, 550, 551, 552, 553, 2, 554, 555, 139, 140, 141, 14, 142, 143, 144, 145, 146, 147, 148, 149, 150, 133, 151, 152, 153, 17, 154, 114, 28, 155, 156, 157, 158, 159, 160, 161, 162, 23, 164, 165, 166, 167, 168, 169, 22, 170, 171, 172, 173, 174, 175, 176, 177, 178, 179, 180, 181, 182, 183, 184, 185, 186, 187, 188, 189, 190, 191, 192, 193, 194, 195, 196, 197, 198, 199, 200, 201, 202, 203, 204, 205, 206, 207, 208, 209, 210, 211, 212, 213, 214, 215, 216, 217, 218, 556, 346, 347, 348, 276, 277, 278, 349, 350, 351, 352, 557, 412, 413, 414, 415, 416, 417, 418, 419, 396, 397, 420, 421, 422, 423, 558, 559, 560, 561, 562, 287, 288, 289, 290, 291, 292, 293, 294, 295, 296, 563, 441, 442, 443, 444, 445, 446, 447, 564, 517, 518, 519, 395, 105, 365, 520, 521, 522, 523, 460, 524, 525, 526, 527, 30, 528, 580, 581, 582, 583, 584, 585, 586, 587, 588, 589, 619, 620, 621, 622, 623, 624, 625, 626, 627, 628, 629, 630, 631, 632, 633, 634] (by decide +kernel) (by decide +kernel)
set_option maxRecDepth 20000 in
theorem gL_law_X2_digest : GoodIn wsL_law (wsV RL 106 RX2 yX2_digest wsX2_digest) := goodIn_app (goodIn_of _ (by decide +kernel)) ggL_law_X2_digest
set_option maxRecDepth 20000 in
theorem ggL_law_X3_digest : GoodIn wsL_law wsX3_digest := goodIn_r _ [568, 569, 570, 125, 127, 65, 49, 571, 572, 573, 5, 574, 227, 228, 229, 230, 40, 41, 231, 232, 233, 234, 124, 235, 236, 237, 238, 43, 239, 240, 241, 242, 243, 244, 245, 246, 247, 248, 249, 250, 251, 252, 253, 254, 42, 44, 255, 256, 257, 258, 259, 260, 261, 262, 263, 264, 265, 266, 267, 268, 575, 576, 577, 578, 579, 357, 358, 359, 360, 428, 429, 430, 431, 432, 433, 434, 435, 436, 437, 438, 439, 128, 45, 46, 47, 305, 306, 307, 308, 452, 453, 454, 455, 533, 534, 535, 536, 126, 379, 537, 538, 539, 540, 487, 488, 489, 490, 541, 542, 543, 544, 384, 385, 386, 590, 591, 592, 593, 594, 595, 596, 597, 598, 599, 600, 601, 602, 603, 604, 605, 606, 607, 608, 609, 610, 611, 612, 613, 614, 615, 616, 617, 618] (by decide +kernel) (by decide +kernel)
set_option maxRecDepth 20000 in
theorem gL_law_X3_digest : GoodIn wsL_law (wsV RL 110 RX3 yX3_digest wsX3_digest) := goodIn_app (goodIn_of _ (by decide +kernel)) ggL_law_X3_digest
theorem dL_law_0 : decode cL_law 0 = .ok (.new 7, 3) := by decide +kernel
theorem dL_law_3 : decode cL_law 3 = .ok (.dup, 1) := by decide +kernel
theorem dL_law_4 : decode cL_law 4 = .ok (.invokespecial 9, 3) := by decide +kernel
theorem dL_law_7 : decode cL_law 7 = .ok (.astore_n 1, 1) := by decide +kernel
theorem dL_law_8 : decode cL_law 8 = .ok (.new 10, 3) := by decide +kernel
theorem dL_law_11 : decode cL_law 11 = .ok (.dup, 1) := by decide +kernel
theorem dL_law_12 : decode cL_law 12 = .ok (.invokespecial 12, 3) := by decide +kernel
theorem dL_law_15 : decode cL_law 15 = .ok (.astore_n 2, 1) := by decide +kernel
theorem dL_law_16 : decode cL_law 16 = .ok (.iconst 0, 1) := by decide +kernel
theorem dL_law_17 : decode cL_law 17 = .ok (.istore_n 3, 1) := by decide +kernel
theorem dL_law_18 : decode cL_law 18 = .ok (.iload_n 3, 1) := by decide +kernel
theorem dL_law_19 : decode cL_law 19 = .ok (.aload_n 0, 1) := by decide +kernel
theorem dL_law_20 : decode cL_law 20 = .ok (.arraylength, 1) := by decide +kernel
theorem dL_law_21 : decode cL_law 21 = .ok (.iconst 4, 1) := by decide +kernel
theorem dL_law_22 : decode cL_law 22 = .ok (.isub, 1) := by decide +kernel
theorem dL_law_23 : decode cL_law 23 = .ok (.if_icmp .gt 785, 3) := by decide +kernel
theorem dL_law_26 : decode cL_law 26 = .ok (.aload_n 0, 1) := by decide +kernel
theorem dL_law_27 : decode cL_law 27 = .ok (.iload_n 3, 1) := by decide +kernel
theorem dL_law_28 : decode cL_law 28 = .ok (.iaload, 1) := by decide +kernel
theorem dL_law_29 : decode cL_law 29 = .ok (.bipush 31, 2) := by decide +kernel
theorem dL_law_31 : decode cL_law 31 = .ok (.iand, 1) := by decide +kernel
theorem dL_law_32 : decode cL_law 32 = .ok (.tableswitch 770 0 22 #[108, 131, 144, 157, 170, 193, 226, 269, 302, 335, 368, 427, 460, 493, 536, 595, 608, 631, 664, 707, 720, 733, 756], 108) := by decide +kernel
theorem dL_law_140 : decode cL_law 140 = .ok (.aload_n 1, 1) := by decide +kernel
theorem dL_law_141 : decode cL_law 141 = .ok (.aload_n 0, 1) := by decide +kernel
theorem dL_law_142 : decode cL_law 142 = .ok (.iload_n 3, 1) := by decide +kernel
theorem dL_law_143 : decode cL_law 143 = .ok (.iconst 1, 1) := by decide +kernel
theorem dL_law_144 : decode cL_law 144 = .ok (.iadd, 1) := by decide +kernel
theorem dL_law_145 : decode cL_law 145 = .ok (.iaload, 1) := by decide +kernel
theorem dL_law_146 : decode cL_law 146 = .ok (.invokevirtual 13, 3) := by decide +kernel
theorem dL_law_149 : decode cL_law 149 = .ok (.aload_n 2, 1) := by decide +kernel
theorem dL_law_150 : decode cL_law 150 = .ok (.aload_n 0, 1) := by decide +kernel
theorem dL_law_151 : decode cL_law 151 = .ok (.iload_n 3, 1) := by decide +kernel
theorem dL_law_152 : decode cL_law 152 = .ok (.iconst 1, 1) := by decide +kernel
theorem dL_law_153 : decode cL_law 153 = .ok (.iadd, 1) := by decide +kernel
theorem dL_law_154 : decode cL_law 154 = .ok (.iaload, 1) := by decide +kernel
theorem dL_law_155 : decode cL_law 155 = .ok (.invokevirtual 17, 3) := by decide +kernel
theorem dL_law_158 : decode cL_law 158 = .ok (.if_icmp .eq 644, 3) := by decide +kernel
theorem dL_law_161 : decode cL_law 161 = .ok (.iconst 0, 1) := by decide +kernel
theorem dL_law_162 : decode cL_law 162 = .ok (.ireturn, 1) := by decide +kernel
theorem dL_law_163 : decode cL_law 163 = .ok (.aload_n 1, 1) := by decide +kernel
theorem dL_law_164 : decode cL_law 164 = .ok (.invokevirtual 18, 3) := by decide +kernel
theorem dL_law_167 : decode cL_law 167 = .ok (.aload_n 2, 1) := by decide +kernel
theorem dL_law_168 : decode cL_law 168 = .ok (.invokevirtual 22, 3) := by decide +kernel
theorem dL_law_171 : decode cL_law 171 = .ok (.if_icmp .eq 631, 3) := by decide +kernel
theorem dL_law_174 : decode cL_law 174 = .ok (.iconst 0, 1) := by decide +kernel
theorem dL_law_175 : decode cL_law 175 = .ok (.ireturn, 1) := by decide +kernel
theorem dL_law_176 : decode cL_law 176 = .ok (.aload_n 1, 1) := by decide +kernel
theorem dL_law_177 : decode cL_law 177 = .ok (.invokevirtual 23, 3) := by decide +kernel
theorem dL_law_180 : decode cL_law 180 = .ok (.aload_n 2, 1) := by decide +kernel
theorem dL_law_181 : decode cL_law 181 = .ok (.invokevirtual 26, 3) := by decide +kernel
theorem dL_law_184 : decode cL_law 184 = .ok (.if_icmp .eq 618, 3) := by decide +kernel
theorem dL_law_187 : decode cL_law 187 = .ok (.iconst 0, 1) := by decide +kernel
theorem dL_law_188 : decode cL_law 188 = .ok (.ireturn, 1) := by decide +kernel
theorem dL_law_189 : decode cL_law 189 = .ok (.aload_n 1, 1) := by decide +kernel
theorem dL_law_190 : decode cL_law 190 = .ok (.invokevirtual 27, 3) := by decide +kernel
theorem dL_law_193 : decode cL_law 193 = .ok (.aload_n 2, 1) := by decide +kernel
theorem dL_law_194 : decode cL_law 194 = .ok (.invokevirtual 30, 3) := by decide +kernel
theorem dL_law_197 : decode cL_law 197 = .ok (.if_icmp .eq 605, 3) := by decide +kernel
theorem dL_law_200 : decode cL_law 200 = .ok (.iconst 0, 1) := by decide +kernel
theorem dL_law_201 : decode cL_law 201 = .ok (.ireturn, 1) := by decide +kernel
theorem dL_law_202 : decode cL_law 202 = .ok (.aload_n 1, 1) := by decide +kernel
theorem dL_law_203 : decode cL_law 203 = .ok (.aload_n 0, 1) := by decide +kernel
theorem dL_law_204 : decode cL_law 204 = .ok (.iload_n 3, 1) := by decide +kernel
theorem dL_law_205 : decode cL_law 205 = .ok (.iconst 1, 1) := by decide +kernel
theorem dL_law_206 : decode cL_law 206 = .ok (.iadd, 1) := by decide +kernel
theorem dL_law_207 : decode cL_law 207 = .ok (.iaload, 1) := by decide +kernel
theorem dL_law_208 : decode cL_law 208 = .ok (.invokevirtual 31, 3) := by decide +kernel
theorem dL_law_211 : decode cL_law 211 = .ok (.aload_n 2, 1) := by decide +kernel
theorem dL_law_212 : decode cL_law 212 = .ok (.aload_n 0, 1) := by decide +kernel
theorem dL_law_213 : decode cL_law 213 = .ok (.iload_n 3, 1) := by decide +kernel
theorem dL_law_214 : decode cL_law 214 = .ok (.iconst 1, 1) := by decide +kernel
theorem dL_law_215 : decode cL_law 215 = .ok (.iadd, 1) := by decide +kernel
theorem dL_law_216 : decode cL_law 216 = .ok (.iaload, 1) := by decide +kernel
theorem dL_law_217 : decode cL_law 217 = .ok (.invokevirtual 34, 3) := by decide +kernel
theorem dL_law_220 : decode cL_law 220 = .ok (.if_icmp .eq 582, 3) := by decide +kernel
theorem dL_law_223 : decode cL_law 223 = .ok (.iconst 0, 1) := by decide +kernel
theorem dL_law_224 : decode cL_law 224 = .ok (.ireturn, 1) := by decide +kernel
theorem dL_law_225 : decode cL_law 225 = .ok (.aload_n 1, 1) := by decide +kernel
theorem dL_law_226 : decode cL_law 226 = .ok (.aload_n 0, 1) := by decide +kernel
theorem dL_law_227 : decode cL_law 227 = .ok (.iload_n 3, 1) := by decide +kernel
theorem dL_law_228 : decode cL_law 228 = .ok (.iconst 1, 1) := by decide +kernel
theorem dL_law_229 : decode cL_law 229 = .ok (.iadd, 1) := by decide +kernel
theorem dL_law_230 : decode cL_law 230 = .ok (.iaload, 1) := by decide +kernel
theorem dL_law_231 : decode cL_law 231 = .ok (.aload_n 0, 1) := by decide +kernel
theorem dL_law_232 : decode cL_law 232 = .ok (.iload_n 3, 1) := by decide +kernel
theorem dL_law_233 : decode cL_law 233 = .ok (.iconst 2, 1) := by decide +kernel
theorem dL_law_234 : decode cL_law 234 = .ok (.iadd, 1) := by decide +kernel
theorem dL_law_235 : decode cL_law 235 = .ok (.iaload, 1) := by decide +kernel
theorem dL_law_236 : decode cL_law 236 = .ok (.invokevirtual 35, 3) := by decide +kernel
theorem dL_law_239 : decode cL_law 239 = .ok (.aload_n 2, 1) := by decide +kernel
theorem dL_law_240 : decode cL_law 240 = .ok (.aload_n 0, 1) := by decide +kernel
theorem dL_law_241 : decode cL_law 241 = .ok (.iload_n 3, 1) := by decide +kernel
theorem dL_law_242 : decode cL_law 242 = .ok (.iconst 1, 1) := by decide +kernel
theorem dL_law_243 : decode cL_law 243 = .ok (.iadd, 1) := by decide +kernel
theorem dL_law_244 : decode cL_law 244 = .ok (.iaload, 1) := by decide +kernel
theorem dL_law_245 : decode cL_law 245 = .ok (.aload_n 0, 1) := by decide +kernel
theorem dL_law_246 : decode cL_law 246 = .ok (.iload_n 3, 1) := by decide +kernel
theorem dL_law_247 : decode cL_law 247 = .ok (.iconst 2, 1) := by decide +kernel
theorem dL_law_248 : decode cL_law 248 = .ok (.iadd, 1) := by decide +kernel
theorem dL_law_249 : decode cL_law 249 = .ok (.iaload, 1) := by decide +kernel
theorem dL_law_250 : decode cL_law 250 = .ok (.invokevirtual 39, 3) := by decide +kernel
theorem dL_law_253 : decode cL_law 253 = .ok (.if_icmp .eq 549, 3) := by decide +kernel
theorem dL_law_256 : decode cL_law 256 = .ok (.iconst 0, 1) := by decide +kernel
theorem dL_law_257 : decode cL_law 257 = .ok (.ireturn, 1) := by decide +kernel
theorem dL_law_258 : decode cL_law 258 = .ok (.aload_n 1, 1) := by decide +kernel
theorem dL_law_259 : decode cL_law 259 = .ok (.aload_n 0, 1) := by decide +kernel
theorem dL_law_260 : decode cL_law 260 = .ok (.iload_n 3, 1) := by decide +kernel
theorem dL_law_261 : decode cL_law 261 = .ok (.iconst 1, 1) := by decide +kernel
theorem dL_law_262 : decode cL_law 262 = .ok (.iadd, 1) := by decide +kernel
theorem dL_law_263 : decode cL_law 263 = .ok (.iaload, 1) := by decide +kernel
theorem dL_law_264 : decode cL_law 264 = .ok (.aload_n 0, 1) := by decide +kernel
theorem dL_law_265 : decode cL_law 265 = .ok (.iload_n 3, 1) := by decide +kernel
theorem dL_law_266 : decode cL_law 266 = .ok (.iconst 2, 1) := by decide +kernel
theorem dL_law_267 : decode cL_law 267 = .ok (.iadd, 1) := by decide +kernel
theorem dL_law_268 : decode cL_law 268 = .ok (.iaload, 1) := by decide +kernel
theorem dL_law_269 : decode cL_law 269 = .ok (.aload_n 0, 1) := by decide +kernel
theorem dL_law_270 : decode cL_law 270 = .ok (.iload_n 3, 1) := by decide +kernel
theorem dL_law_271 : decode cL_law 271 = .ok (.iconst 3, 1) := by decide +kernel
theorem dL_law_272 : decode cL_law 272 = .ok (.iadd, 1) := by decide +kernel
end
section
theorem dL_law_273 : decode cL_law 273 = .ok (.iaload, 1) := by decide +kernel
theorem dL_law_274 : decode cL_law 274 = .ok (.invokevirtual 40, 3) := by decide +kernel
theorem dL_law_277 : decode cL_law 277 = .ok (.aload_n 2, 1) := by decide +kernel
theorem dL_law_278 : decode cL_law 278 = .ok (.aload_n 0, 1) := by decide +kernel
theorem dL_law_279 : decode cL_law 279 = .ok (.iload_n 3, 1) := by decide +kernel
theorem dL_law_280 : decode cL_law 280 = .ok (.iconst 1, 1) := by decide +kernel
theorem dL_law_281 : decode cL_law 281 = .ok (.iadd, 1) := by decide +kernel
theorem dL_law_282 : decode cL_law 282 = .ok (.iaload, 1) := by decide +kernel
theorem dL_law_283 : decode cL_law 283 = .ok (.aload_n 0, 1) := by decide +kernel
theorem dL_law_284 : decode cL_law 284 = .ok (.iload_n 3, 1) := by decide +kernel
theorem dL_law_285 : decode cL_law 285 = .ok (.iconst 2, 1) := by decide +kernel
theorem dL_law_286 : decode cL_law 286 = .ok (.iadd, 1) := by decide +kernel
theorem dL_law_287 : decode cL_law 287 = .ok (.iaload, 1) := by decide +kernel
theorem dL_law_288 : decode cL_law 288 = .ok (.aload_n 0, 1) := by decide +kernel
theorem dL_law_289 : decode cL_law 289 = .ok (.iload_n 3, 1) := by decide +kernel
theorem dL_law_290 : decode cL_law 290 = .ok (.iconst 3, 1) := by decide +kernel
theorem dL_law_291 : decode cL_law 291 = .ok (.iadd, 1) := by decide +kernel
theorem dL_law_292 : decode cL_law 292 = .ok (.iaload, 1) := by decide +kernel
theorem dL_law_293 : decode cL_law 293 = .ok (.invokevirtual 44, 3) := by decide +kernel
theorem dL_law_296 : decode cL_law 296 = .ok (.if_icmp .eq 506, 3) := by decide +kernel
theorem dL_law_299 : decode cL_law 299 = .ok (.iconst 0, 1) := by decide +kernel
theorem dL_law_300 : decode cL_law 300 = .ok (.ireturn, 1) := by decide +kernel
theorem dL_law_301 : decode cL_law 301 = .ok (.aload_n 1, 1) := by decide +kernel
theorem dL_law_302 : decode cL_law 302 = .ok (.aload_n 0, 1) := by decide +kernel
theorem dL_law_303 : decode cL_law 303 = .ok (.iload_n 3, 1) := by decide +kernel
theorem dL_law_304 : decode cL_law 304 = .ok (.iconst 1, 1) := by decide +kernel
theorem dL_law_305 : decode cL_law 305 = .ok (.iadd, 1) := by decide +kernel
theorem dL_law_306 : decode cL_law 306 = .ok (.iaload, 1) := by decide +kernel
theorem dL_law_307 : decode cL_law 307 = .ok (.aload_n 0, 1) := by decide +kernel
theorem dL_law_308 : decode cL_law 308 = .ok (.iload_n 3, 1) := by decide +kernel
theorem dL_law_309 : decode cL_law 309 = .ok (.iconst 2, 1) := by decide +kernel
theorem dL_law_310 : decode cL_law 310 = .ok (.iadd, 1) := by decide +kernel
theorem dL_law_311 : decode cL_law 311 = .ok (.iaload, 1) := by decide +kernel
theorem dL_law_312 : decode cL_law 312 = .ok (.invokevirtual 45, 3) := by decide +kernel
theorem dL_law_315 : decode cL_law 315 = .ok (.aload_n 2, 1) := by decide +kernel
theorem dL_law_316 : decode cL_law 316 = .ok (.aload_n 0, 1) := by decide +kernel
theorem dL_law_317 : decode cL_law 317 = .ok (.iload_n 3, 1) := by decide +kernel
theorem dL_law_318 : decode cL_law 318 = .ok (.iconst 1, 1) := by decide +kernel
theorem dL_law_319 : decode cL_law 319 = .ok (.iadd, 1) := by decide +kernel
theorem dL_law_320 : decode cL_law 320 = .ok (.iaload, 1) := by decide +kernel
theorem dL_law_321 : decode cL_law 321 = .ok (.aload_n 0, 1) := by decide +kernel
theorem dL_law_322 : decode cL_law 322 = .ok (.iload_n 3, 1) := by decide +kernel
theorem dL_law_323 : decode cL_law 323 = .ok (.iconst 2, 1) := by decide +kernel
theorem dL_law_324 : decode cL_law 324 = .ok (.iadd, 1) := by decide +kernel
theorem dL_law_325 : decode cL_law 325 = .ok (.iaload, 1) := by decide +kernel
theorem dL_law_326 : decode cL_law 326 = .ok (.invokevirtual 48, 3) := by decide +kernel
theorem dL_law_329 : decode cL_law 329 = .ok (.if_icmp .eq 473, 3) := by decide +kernel
theorem dL_law_332 : decode cL_law 332 = .ok (.iconst 0, 1) := by decide +kernel
theorem dL_law_333 : decode cL_law 333 = .ok (.ireturn, 1) := by decide +kernel
theorem dL_law_334 : decode cL_law 334 = .ok (.aload_n 1, 1) := by decide +kernel
theorem dL_law_335 : decode cL_law 335 = .ok (.aload_n 0, 1) := by decide +kernel
theorem dL_law_336 : decode cL_law 336 = .ok (.iload_n 3, 1) := by decide +kernel
theorem dL_law_337 : decode cL_law 337 = .ok (.iconst 1, 1) := by decide +kernel
theorem dL_law_338 : decode cL_law 338 = .ok (.iadd, 1) := by decide +kernel
theorem dL_law_339 : decode cL_law 339 = .ok (.iaload, 1) := by decide +kernel
theorem dL_law_340 : decode cL_law 340 = .ok (.aload_n 0, 1) := by decide +kernel
theorem dL_law_341 : decode cL_law 341 = .ok (.iload_n 3, 1) := by decide +kernel
theorem dL_law_342 : decode cL_law 342 = .ok (.iconst 2, 1) := by decide +kernel
theorem dL_law_343 : decode cL_law 343 = .ok (.iadd, 1) := by decide +kernel
theorem dL_law_344 : decode cL_law 344 = .ok (.iaload, 1) := by decide +kernel
theorem dL_law_345 : decode cL_law 345 = .ok (.invokevirtual 49, 3) := by decide +kernel
theorem dL_law_348 : decode cL_law 348 = .ok (.aload_n 2, 1) := by decide +kernel
theorem dL_law_349 : decode cL_law 349 = .ok (.aload_n 0, 1) := by decide +kernel
theorem dL_law_350 : decode cL_law 350 = .ok (.iload_n 3, 1) := by decide +kernel
theorem dL_law_351 : decode cL_law 351 = .ok (.iconst 1, 1) := by decide +kernel
theorem dL_law_352 : decode cL_law 352 = .ok (.iadd, 1) := by decide +kernel
theorem dL_law_353 : decode cL_law 353 = .ok (.iaload, 1) := by decide +kernel
theorem dL_law_354 : decode cL_law 354 = .ok (.aload_n 0, 1) := by decide +kernel
theorem dL_law_355 : decode cL_law 355 = .ok (.iload_n 3, 1) := by decide +kernel
theorem dL_law_356 : decode cL_law 356 = .ok (.iconst 2, 1) := by decide +kernel
theorem dL_law_357 : decode cL_law 357 = .ok (.iadd, 1) := by decide +kernel
theorem dL_law_358 : decode cL_law 358 = .ok (.iaload, 1) := by decide +kernel
theorem dL_law_359 : decode cL_law 359 = .ok (.invokevirtual 52, 3) := by decide +kernel
theorem dL_law_362 : decode cL_law 362 = .ok (.if_icmp .eq 440, 3) := by decide +kernel
theorem dL_law_365 : decode cL_law 365 = .ok (.iconst 0, 1) := by decide +kernel
theorem dL_law_366 : decode cL_law 366 = .ok (.ireturn, 1) := by decide +kernel
theorem dL_law_367 : decode cL_law 367 = .ok (.aload_n 1, 1) := by decide +kernel
theorem dL_law_368 : decode cL_law 368 = .ok (.aload_n 0, 1) := by decide +kernel
theorem dL_law_369 : decode cL_law 369 = .ok (.iload_n 3, 1) := by decide +kernel
theorem dL_law_370 : decode cL_law 370 = .ok (.iconst 1, 1) := by decide +kernel
theorem dL_law_371 : decode cL_law 371 = .ok (.iadd, 1) := by decide +kernel
theorem dL_law_372 : decode cL_law 372 = .ok (.iaload, 1) := by decide +kernel
theorem dL_law_373 : decode cL_law 373 = .ok (.aload_n 0, 1) := by decide +kernel
theorem dL_law_374 : decode cL_law 374 = .ok (.iload_n 3, 1) := by decide +kernel
theorem dL_law_375 : decode cL_law 375 = .ok (.iconst 2, 1) := by decide +kernel
theorem dL_law_376 : decode cL_law 376 = .ok (.iadd, 1) := by decide +kernel
theorem dL_law_377 : decode cL_law 377 = .ok (.iaload, 1) := by decide +kernel
theorem dL_law_378 : decode cL_law 378 = .ok (.invokevirtual 53, 3) := by decide +kernel
theorem dL_law_381 : decode cL_law 381 = .ok (.aload_n 2, 1) := by decide +kernel
theorem dL_law_382 : decode cL_law 382 = .ok (.aload_n 0, 1) := by decide +kernel
theorem dL_law_383 : decode cL_law 383 = .ok (.iload_n 3, 1) := by decide +kernel
theorem dL_law_384 : decode cL_law 384 = .ok (.iconst 1, 1) := by decide +kernel
theorem dL_law_385 : decode cL_law 385 = .ok (.iadd, 1) := by decide +kernel
theorem dL_law_386 : decode cL_law 386 = .ok (.iaload, 1) := by decide +kernel
theorem dL_law_387 : decode cL_law 387 = .ok (.aload_n 0, 1) := by decide +kernel
theorem dL_law_388 : decode cL_law 388 = .ok (.iload_n 3, 1) := by decide +kernel
theorem dL_law_389 : decode cL_law 389 = .ok (.iconst 2, 1) := by decide +kernel
theorem dL_law_390 : decode cL_law 390 = .ok (.iadd, 1) := by decide +kernel
theorem dL_law_391 : decode cL_law 391 = .ok (.iaload, 1) := by decide +kernel
theorem dL_law_392 : decode cL_law 392 = .ok (.invokevirtual 56, 3) := by decide +kernel
theorem dL_law_395 : decode cL_law 395 = .ok (.if_icmp .eq 407, 3) := by decide +kernel
theorem dL_law_398 : decode cL_law 398 = .ok (.iconst 0, 1) := by decide +kernel
theorem dL_law_399 : decode cL_law 399 = .ok (.ireturn, 1) := by decide +kernel
theorem dL_law_400 : decode cL_law 400 = .ok (.aload_n 1, 1) := by decide +kernel
theorem dL_law_401 : decode cL_law 401 = .ok (.aload_n 0, 1) := by decide +kernel
theorem dL_law_402 : decode cL_law 402 = .ok (.iload_n 3, 1) := by decide +kernel
theorem dL_law_403 : decode cL_law 403 = .ok (.iconst 1, 1) := by decide +kernel
theorem dL_law_404 : decode cL_law 404 = .ok (.iadd, 1) := by decide +kernel
theorem dL_law_405 : decode cL_law 405 = .ok (.iaload, 1) := by decide +kernel
theorem dL_law_406 : decode cL_law 406 = .ok (.aload_n 0, 1) := by decide +kernel
theorem dL_law_407 : decode cL_law 407 = .ok (.iload_n 3, 1) := by decide +kernel
theorem dL_law_408 : decode cL_law 408 = .ok (.iconst 2, 1) := by decide +kernel
theorem dL_law_409 : decode cL_law 409 = .ok (.iadd, 1) := by decide +kernel
theorem dL_law_410 : decode cL_law 410 = .ok (.iaload, 1) := by decide +kernel
theorem dL_law_411 : decode cL_law 411 = .ok (.aload_n 0, 1) := by decide +kernel
theorem dL_law_412 : decode cL_law 412 = .ok (.iload_n 3, 1) := by decide +kernel
theorem dL_law_413 : decode cL_law 413 = .ok (.iconst 3, 1) := by decide +kernel
theorem dL_law_414 : decode cL_law 414 = .ok (.iadd, 1) := by decide +kernel
theorem dL_law_415 : decode cL_law 415 = .ok (.iaload, 1) := by decide +kernel
theorem dL_law_416 : decode cL_law 416 = .ok (.ifCond .eq 7, 3) := by decide +kernel
theorem dL_law_419 : decode cL_law 419 = .ok (.iconst 1, 1) := by decide +kernel
theorem dL_law_420 : decode cL_law 420 = .ok (.goto 4, 3) := by decide +kernel
theorem dL_law_423 : decode cL_law 423 = .ok (.iconst 0, 1) := by decide +kernel
theorem dL_law_424 : decode cL_law 424 = .ok (.invokevirtual 57, 3) := by decide +kernel
theorem dL_law_427 : decode cL_law 427 = .ok (.aload_n 2, 1) := by decide +kernel
theorem dL_law_428 : decode cL_law 428 = .ok (.aload_n 0, 1) := by decide +kernel
theorem dL_law_429 : decode cL_law 429 = .ok (.iload_n 3, 1) := by decide +kernel
theorem dL_law_430 : decode cL_law 430 = .ok (.iconst 1, 1) := by decide +kernel
theorem dL_law_431 : decode cL_law 431 = .ok (.iadd, 1) := by decide +kernel
theorem dL_law_432 : decode cL_law 432 = .ok (.iaload, 1) := by decide +kernel
theorem dL_law_433 : decode cL_law 433 = .ok (.aload_n 0, 1) := by decide +kernel
theorem dL_law_434 : decode cL_law 434 = .ok (.iload_n 3, 1) := by decide +kernel
theorem dL_law_435 : decode cL_law 435 = .ok (.iconst 2, 1) := by decide +kernel
theorem dL_law_436 : decode cL_law 436 = .ok (.iadd, 1) := by decide +kernel
theorem dL_law_437 : decode cL_law 437 = .ok (.iaload, 1) := by decide +kernel
theorem dL_law_438 : decode cL_law 438 = .ok (.aload_n 0, 1) := by decide +kernel
theorem dL_law_439 : decode cL_law 439 = .ok (.iload_n 3, 1) := by decide +kernel
theorem dL_law_440 : decode cL_law 440 = .ok (.iconst 3, 1) := by decide +kernel
theorem dL_law_441 : decode cL_law 441 = .ok (.iadd, 1) := by decide +kernel
theorem dL_law_442 : decode cL_law 442 = .ok (.iaload, 1) := by decide +kernel
theorem dL_law_443 : decode cL_law 443 = .ok (.ifCond .eq 7, 3) := by decide +kernel
theorem dL_law_446 : decode cL_law 446 = .ok (.iconst 1, 1) := by decide +kernel
theorem dL_law_447 : decode cL_law 447 = .ok (.goto 4, 3) := by decide +kernel
theorem dL_law_450 : decode cL_law 450 = .ok (.iconst 0, 1) := by decide +kernel
theorem dL_law_451 : decode cL_law 451 = .ok (.invokevirtual 61, 3) := by decide +kernel
theorem dL_law_454 : decode cL_law 454 = .ok (.if_icmp .eq 348, 3) := by decide +kernel
theorem dL_law_457 : decode cL_law 457 = .ok (.iconst 0, 1) := by decide +kernel
theorem dL_law_458 : decode cL_law 458 = .ok (.ireturn, 1) := by decide +kernel
theorem dL_law_459 : decode cL_law 459 = .ok (.aload_n 1, 1) := by decide +kernel
theorem dL_law_460 : decode cL_law 460 = .ok (.aload_n 0, 1) := by decide +kernel
theorem dL_law_461 : decode cL_law 461 = .ok (.iload_n 3, 1) := by decide +kernel
theorem dL_law_462 : decode cL_law 462 = .ok (.iconst 1, 1) := by decide +kernel
theorem dL_law_463 : decode cL_law 463 = .ok (.iadd, 1) := by decide +kernel
theorem dL_law_464 : decode cL_law 464 = .ok (.iaload, 1) := by decide +kernel
theorem dL_law_465 : decode cL_law 465 = .ok (.aload_n 0, 1) := by decide +kernel
theorem dL_law_466 : decode cL_law 466 = .ok (.iload_n 3, 1) := by decide +kernel
theorem dL_law_467 : decode cL_law 467 = .ok (.iconst 2, 1) := by decide +kernel
theorem dL_law_468 : decode cL_law 468 = .ok (.iadd, 1) := by decide +kernel
theorem dL_law_469 : decode cL_law 469 = .ok (.iaload, 1) := by decide +kernel
theorem dL_law_470 : decode cL_law 470 = .ok (.invokevirtual 62, 3) := by decide +kernel
theorem dL_law_473 : decode cL_law 473 = .ok (.aload_n 2, 1) := by decide +kernel
theorem dL_law_474 : decode cL_law 474 = .ok (.aload_n 0, 1) := by decide +kernel
theorem dL_law_475 : decode cL_law 475 = .ok (.iload_n 3, 1) := by decide +kernel
theorem dL_law_476 : decode cL_law 476 = .ok (.iconst 1, 1) := by decide +kernel
theorem dL_law_477 : decode cL_law 477 = .ok (.iadd, 1) := by decide +kernel
theorem dL_law_478 : decode cL_law 478 = .ok (.iaload, 1) := by decide +kernel
theorem dL_law_479 : decode cL_law 479 = .ok (.aload_n 0, 1) := by decide +kernel
theorem dL_law_480 : decode cL_law 480 = .ok (.iload_n 3, 1) := by decide +kernel
theorem dL_law_481 : decode cL_law 481 = .ok (.iconst 2, 1) := by decide +kernel
theorem dL_law_482 : decode cL_law 482 = .ok (.iadd, 1) := by decide +kernel
theorem dL_law_483 : decode cL_law 483 = .ok (.iaload, 1) := by decide +kernel
theorem dL_law_484 : decode cL_law 484 = .ok (.invokevirtual 65, 3) := by decide +kernel
theorem dL_law_487 : decode cL_law 487 = .ok (.if_icmp .eq 315, 3) := by decide +kernel
theorem dL_law_490 : decode cL_law 490 = .ok (.iconst 0, 1) := by decide +kernel
theorem dL_law_491 : decode cL_law 491 = .ok (.ireturn, 1) := by decide +kernel
theorem dL_law_492 : decode cL_law 492 = .ok (.aload_n 1, 1) := by decide +kernel
theorem dL_law_493 : decode cL_law 493 = .ok (.aload_n 0, 1) := by decide +kernel
theorem dL_law_494 : decode cL_law 494 = .ok (.iload_n 3, 1) := by decide +kernel
theorem dL_law_495 : decode cL_law 495 = .ok (.iconst 1, 1) := by decide +kernel
theorem dL_law_496 : decode cL_law 496 = .ok (.iadd, 1) := by decide +kernel
theorem dL_law_497 : decode cL_law 497 = .ok (.iaload, 1) := by decide +kernel
theorem dL_law_498 : decode cL_law 498 = .ok (.aload_n 0, 1) := by decide +kernel
theorem dL_law_499 : decode cL_law 499 = .ok (.iload_n 3, 1) := by decide +kernel
theorem dL_law_500 : decode cL_law 500 = .ok (.iconst 2, 1) := by decide +kernel
theorem dL_law_501 : decode cL_law 501 = .ok (.iadd, 1) := by decide +kernel
theorem dL_law_502 : decode cL_law 502 = .ok (.iaload, 1) := by decide +kernel
theorem dL_law_503 : decode cL_law 503 = .ok (.invokevirtual 66, 3) := by decide +kernel
theorem dL_law_506 : decode cL_law 506 = .ok (.aload_n 2, 1) := by decide +kernel
theorem dL_law_507 : decode cL_law 507 = .ok (.aload_n 0, 1) := by decide +kernel
theorem dL_law_508 : decode cL_law 508 = .ok (.iload_n 3, 1) := by decide +kernel
theorem dL_law_509 : decode cL_law 509 = .ok (.iconst 1, 1) := by decide +kernel
theorem dL_law_510 : decode cL_law 510 = .ok (.iadd, 1) := by decide +kernel
theorem dL_law_511 : decode cL_law 511 = .ok (.iaload, 1) := by decide +kernel
theorem dL_law_512 : decode cL_law 512 = .ok (.aload_n 0, 1) := by decide +kernel
theorem dL_law_513 : decode cL_law 513 = .ok (.iload_n 3, 1) := by decide +kernel
theorem dL_law_514 : decode cL_law 514 = .ok (.iconst 2, 1) := by decide +kernel
theorem dL_law_515 : decode cL_law 515 = .ok (.iadd, 1) := by decide +kernel
theorem dL_law_516 : decode cL_law 516 = .ok (.iaload, 1) := by decide +kernel
theorem dL_law_517 : decode cL_law 517 = .ok (.invokevirtual 69, 3) := by decide +kernel
theorem dL_law_520 : decode cL_law 520 = .ok (.if_icmp .eq 282, 3) := by decide +kernel
theorem dL_law_523 : decode cL_law 523 = .ok (.iconst 0, 1) := by decide +kernel
theorem dL_law_524 : decode cL_law 524 = .ok (.ireturn, 1) := by decide +kernel
theorem dL_law_525 : decode cL_law 525 = .ok (.aload_n 1, 1) := by decide +kernel
theorem dL_law_526 : decode cL_law 526 = .ok (.aload_n 0, 1) := by decide +kernel
theorem dL_law_527 : decode cL_law 527 = .ok (.iload_n 3, 1) := by decide +kernel
theorem dL_law_528 : decode cL_law 528 = .ok (.iconst 1, 1) := by decide +kernel
theorem dL_law_529 : decode cL_law 529 = .ok (.iadd, 1) := by decide +kernel
theorem dL_law_530 : decode cL_law 530 = .ok (.iaload, 1) := by decide +kernel
theorem dL_law_531 : decode cL_law 531 = .ok (.aload_n 0, 1) := by decide +kernel
theorem dL_law_532 : decode cL_law 532 = .ok (.iload_n 3, 1) := by decide +kernel
theorem dL_law_533 : decode cL_law 533 = .ok (.iconst 2, 1) := by decide +kernel
theorem dL_law_534 : decode cL_law 534 = .ok (.iadd, 1) := by decide +kernel
theorem dL_law_535 : decode cL_law 535 = .ok (.iaload, 1) := by decide +kernel
theorem dL_law_536 : decode cL_law 536 = .ok (.aload_n 0, 1) := by decide +kernel
theorem dL_law_537 : decode cL_law 537 = .ok (.iload_n 3, 1) := by decide +kernel
theorem dL_law_538 : decode cL_law 538 = .ok (.iconst 3, 1) := by decide +kernel
theorem dL_law_539 : decode cL_law 539 = .ok (.iadd, 1) := by decide +kernel
theorem dL_law_540 : decode cL_law 540 = .ok (.iaload, 1) := by decide +kernel
theorem dL_law_541 : decode cL_law 541 = .ok (.invokevirtual 70, 3) := by decide +kernel
theorem dL_law_544 : decode cL_law 544 = .ok (.aload_n 2, 1) := by decide +kernel
theorem dL_law_545 : decode cL_law 545 = .ok (.aload_n 0, 1) := by decide +kernel
theorem dL_law_546 : decode cL_law 546 = .ok (.iload_n 3, 1) := by decide +kernel
theorem dL_law_547 : decode cL_law 547 = .ok (.iconst 1, 1) := by decide +kernel
theorem dL_law_548 : decode cL_law 548 = .ok (.iadd, 1) := by decide +kernel
theorem dL_law_549 : decode cL_law 549 = .ok (.iaload, 1) := by decide +kernel
theorem dL_law_550 : decode cL_law 550 = .ok (.aload_n 0, 1) := by decide +kernel
theorem dL_law_551 : decode cL_law 551 = .ok (.iload_n 3, 1) := by decide +kernel
theorem dL_law_552 : decode cL_law 552 = .ok (.iconst 2, 1) := by decide +kernel
theorem dL_law_553 : decode cL_law 553 = .ok (.iadd, 1) := by decide +kernel
theorem dL_law_554 : decode cL_law 554 = .ok (.iaload, 1) := by decide +kernel
theorem dL_law_555 : decode cL_law 555 = .ok (.aload_n 0, 1) := by decide +kernel
theorem dL_law_556 : decode cL_law 556 = .ok (.iload_n 3, 1) := by decide +kernel
theorem dL_law_557 : decode cL_law 557 = .ok (.iconst 3, 1) := by decide +kernel
theorem dL_law_558 : decode cL_law 558 = .ok (.iadd, 1) := by decide +kernel
theorem dL_law_559 : decode cL_law 559 = .ok (.iaload, 1) := by decide +kernel
theorem dL_law_560 : decode cL_law 560 = .ok (.invokevirtual 73, 3) := by decide +kernel
theorem dL_law_563 : decode cL_law 563 = .ok (.if_icmp .eq 239, 3) := by decide +kernel
theorem dL_law_566 : decode cL_law 566 = .ok (.iconst 0, 1) := by decide +kernel
theorem dL_law_567 : decode cL_law 567 = .ok (.ireturn, 1) := by decide +kernel
theorem dL_law_568 : decode cL_law 568 = .ok (.aload_n 1, 1) := by decide +kernel
theorem dL_law_569 : decode cL_law 569 = .ok (.aload_n 0, 1) := by decide +kernel
theorem dL_law_570 : decode cL_law 570 = .ok (.iload_n 3, 1) := by decide +kernel
theorem dL_law_571 : decode cL_law 571 = .ok (.iconst 1, 1) := by decide +kernel
theorem dL_law_572 : decode cL_law 572 = .ok (.iadd, 1) := by decide +kernel
theorem dL_law_573 : decode cL_law 573 = .ok (.iaload, 1) := by decide +kernel
theorem dL_law_574 : decode cL_law 574 = .ok (.aload_n 0, 1) := by decide +kernel
theorem dL_law_575 : decode cL_law 575 = .ok (.iload_n 3, 1) := by decide +kernel
theorem dL_law_576 : decode cL_law 576 = .ok (.iconst 2, 1) := by decide +kernel
theorem dL_law_577 : decode cL_law 577 = .ok (.iadd, 1) := by decide +kernel
theorem dL_law_578 : decode cL_law 578 = .ok (.iaload, 1) := by decide +kernel
theorem dL_law_579 : decode cL_law 579 = .ok (.aload_n 0, 1) := by decide +kernel
theorem dL_law_580 : decode cL_law 580 = .ok (.iload_n 3, 1) := by decide +kernel
theorem dL_law_581 : decode cL_law 581 = .ok (.iconst 3, 1) := by decide +kernel
theorem dL_law_582 : decode cL_law 582 = .ok (.iadd, 1) := by decide +kernel
theorem dL_law_583 : decode cL_law 583 = .ok (.iaload, 1) := by decide +kernel
theorem dL_law_584 : decode cL_law 584 = .ok (.ifCond .eq 7, 3) := by decide +kernel
theorem dL_law_587 : decode cL_law 587 = .ok (.iconst 1, 1) := by decide +kernel
theorem dL_law_588 : decode cL_law 588 = .ok (.goto 4, 3) := by decide +kernel
theorem dL_law_591 : decode cL_law 591 = .ok (.iconst 0, 1) := by decide +kernel
theorem dL_law_592 : decode cL_law 592 = .ok (.invokevirtual 74, 3) := by decide +kernel
theorem dL_law_595 : decode cL_law 595 = .ok (.aload_n 2, 1) := by decide +kernel
theorem dL_law_596 : decode cL_law 596 = .ok (.aload_n 0, 1) := by decide +kernel
theorem dL_law_597 : decode cL_law 597 = .ok (.iload_n 3, 1) := by decide +kernel
theorem dL_law_598 : decode cL_law 598 = .ok (.iconst 1, 1) := by decide +kernel
theorem dL_law_599 : decode cL_law 599 = .ok (.iadd, 1) := by decide +kernel
theorem dL_law_600 : decode cL_law 600 = .ok (.iaload, 1) := by decide +kernel
theorem dL_law_601 : decode cL_law 601 = .ok (.aload_n 0, 1) := by decide +kernel
theorem dL_law_602 : decode cL_law 602 = .ok (.iload_n 3, 1) := by decide +kernel
theorem dL_law_603 : decode cL_law 603 = .ok (.iconst 2, 1) := by decide +kernel
theorem dL_law_604 : decode cL_law 604 = .ok (.iadd, 1) := by decide +kernel
theorem dL_law_605 : decode cL_law 605 = .ok (.iaload, 1) := by decide +kernel
theorem dL_law_606 : decode cL_law 606 = .ok (.aload_n 0, 1) := by decide +kernel
theorem dL_law_607 : decode cL_law 607 = .ok (.iload_n 3, 1) := by decide +kernel
theorem dL_law_608 : decode cL_law 608 = .ok (.iconst 3, 1) := by decide +kernel
theorem dL_law_609 : decode cL_law 609 = .ok (.iadd, 1) := by decide +kernel
theorem dL_law_610 : decode cL_law 610 = .ok (.iaload, 1) := by decide +kernel
theorem dL_law_611 : decode cL_law 611 = .ok (.ifCond .eq 7, 3) := by decide +kernel
theorem dL_law_614 : decode cL_law 614 = .ok (.iconst 1, 1) := by decide +kernel
theorem dL_law_615 : decode cL_law 615 = .ok (.goto 4, 3) := by decide +kernel
theorem dL_law_618 : decode cL_law 618 = .ok (.iconst 0, 1) := by decide +kernel
theorem dL_law_619 : decode cL_law 619 = .ok (.invokevirtual 77, 3) := by decide +kernel
theorem dL_law_622 : decode cL_law 622 = .ok (.if_icmp .eq 180, 3) := by decide +kernel
theorem dL_law_625 : decode cL_law 625 = .ok (.iconst 0, 1) := by decide +kernel
theorem dL_law_626 : decode cL_law 626 = .ok (.ireturn, 1) := by decide +kernel
theorem dL_law_627 : decode cL_law 627 = .ok (.aload_n 1, 1) := by decide +kernel
theorem dL_law_628 : decode cL_law 628 = .ok (.invokevirtual 78, 3) := by decide +kernel
theorem dL_law_631 : decode cL_law 631 = .ok (.aload_n 2, 1) := by decide +kernel
theorem dL_law_632 : decode cL_law 632 = .ok (.invokevirtual 81, 3) := by decide +kernel
theorem dL_law_635 : decode cL_law 635 = .ok (.if_icmp .eq 167, 3) := by decide +kernel
theorem dL_law_638 : decode cL_law 638 = .ok (.iconst 0, 1) := by decide +kernel
theorem dL_law_639 : decode cL_law 639 = .ok (.ireturn, 1) := by decide +kernel
theorem dL_law_640 : decode cL_law 640 = .ok (.aload_n 1, 1) := by decide +kernel
theorem dL_law_641 : decode cL_law 641 = .ok (.aload_n 0, 1) := by decide +kernel
theorem dL_law_642 : decode cL_law 642 = .ok (.iload_n 3, 1) := by decide +kernel
theorem dL_law_643 : decode cL_law 643 = .ok (.iconst 1, 1) := by decide +kernel
theorem dL_law_644 : decode cL_law 644 = .ok (.iadd, 1) := by decide +kernel
theorem dL_law_645 : decode cL_law 645 = .ok (.iaload, 1) := by decide +kernel
theorem dL_law_646 : decode cL_law 646 = .ok (.invokevirtual 82, 3) := by decide +kernel
theorem dL_law_649 : decode cL_law 649 = .ok (.aload_n 2, 1) := by decide +kernel
theorem dL_law_650 : decode cL_law 650 = .ok (.aload_n 0, 1) := by decide +kernel
theorem dL_law_651 : decode cL_law 651 = .ok (.iload_n 3, 1) := by decide +kernel
theorem dL_law_652 : decode cL_law 652 = .ok (.iconst 1, 1) := by decide +kernel
theorem dL_law_653 : decode cL_law 653 = .ok (.iadd, 1) := by decide +kernel
theorem dL_law_654 : decode cL_law 654 = .ok (.iaload, 1) := by decide +kernel
theorem dL_law_655 : decode cL_law 655 = .ok (.invokevirtual 85, 3) := by decide +kernel
theorem dL_law_658 : decode cL_law 658 = .ok (.if_icmp .eq 144, 3) := by decide +kernel
theorem dL_law_661 : decode cL_law 661 = .ok (.iconst 0, 1) := by decide +kernel
theorem dL_law_662 : decode cL_law 662 = .ok (.ireturn, 1) := by decide +kernel
theorem dL_law_663 : decode cL_law 663 = .ok (.aload_n 1, 1) := by decide +kernel
theorem dL_law_664 : decode cL_law 664 = .ok (.aload_n 0, 1) := by decide +kernel
theorem dL_law_665 : decode cL_law 665 = .ok (.iload_n 3, 1) := by decide +kernel
theorem dL_law_666 : decode cL_law 666 = .ok (.iconst 1, 1) := by decide +kernel
theorem dL_law_667 : decode cL_law 667 = .ok (.iadd, 1) := by decide +kernel
theorem dL_law_668 : decode cL_law 668 = .ok (.iaload, 1) := by decide +kernel
theorem dL_law_669 : decode cL_law 669 = .ok (.aload_n 0, 1) := by decide +kernel
theorem dL_law_670 : decode cL_law 670 = .ok (.iload_n 3, 1) := by decide +kernel
theorem dL_law_671 : decode cL_law 671 = .ok (.iconst 2, 1) := by decide +kernel
theorem dL_law_672 : decode cL_law 672 = .ok (.iadd, 1) := by decide +kernel
theorem dL_law_673 : decode cL_law 673 = .ok (.iaload, 1) := by decide +kernel
theorem dL_law_674 : decode cL_law 674 = .ok (.invokevirtual 86, 3) := by decide +kernel
theorem dL_law_677 : decode cL_law 677 = .ok (.aload_n 2, 1) := by decide +kernel
theorem dL_law_678 : decode cL_law 678 = .ok (.aload_n 0, 1) := by decide +kernel
theorem dL_law_679 : decode cL_law 679 = .ok (.iload_n 3, 1) := by decide +kernel
theorem dL_law_680 : decode cL_law 680 = .ok (.iconst 1, 1) := by decide +kernel
theorem dL_law_681 : decode cL_law 681 = .ok (.iadd, 1) := by decide +kernel
theorem dL_law_682 : decode cL_law 682 = .ok (.iaload, 1) := by decide +kernel
theorem dL_law_683 : decode cL_law 683 = .ok (.aload_n 0, 1) := by decide +kernel
theorem dL_law_684 : decode cL_law 684 = .ok (.iload_n 3, 1) := by decide +kernel
theorem dL_law_685 : decode cL_law 685 = .ok (.iconst 2, 1) := by decide +kernel
theorem dL_law_686 : decode cL_law 686 = .ok (.iadd, 1) := by decide +kernel
theorem dL_law_687 : decode cL_law 687 = .ok (.iaload, 1) := by decide +kernel
theorem dL_law_688 : decode cL_law 688 = .ok (.invokevirtual 89, 3) := by decide +kernel
theorem dL_law_691 : decode cL_law 691 = .ok (.if_icmp .eq 111, 3) := by decide +kernel
theorem dL_law_694 : decode cL_law 694 = .ok (.iconst 0, 1) := by decide +kernel
theorem dL_law_695 : decode cL_law 695 = .ok (.ireturn, 1) := by decide +kernel
theorem dL_law_696 : decode cL_law 696 = .ok (.aload_n 1, 1) := by decide +kernel
theorem dL_law_697 : decode cL_law 697 = .ok (.aload_n 0, 1) := by decide +kernel
theorem dL_law_698 : decode cL_law 698 = .ok (.iload_n 3, 1) := by decide +kernel
theorem dL_law_699 : decode cL_law 699 = .ok (.iconst 1, 1) := by decide +kernel
theorem dL_law_700 : decode cL_law 700 = .ok (.iadd, 1) := by decide +kernel
theorem dL_law_701 : decode cL_law 701 = .ok (.iaload, 1) := by decide +kernel
theorem dL_law_702 : decode cL_law 702 = .ok (.aload_n 0, 1) := by decide +kernel
theorem dL_law_703 : decode cL_law 703 = .ok (.iload_n 3, 1) := by decide +kernel
theorem dL_law_704 : decode cL_law 704 = .ok (.iconst 2, 1) := by decide +kernel
theorem dL_law_705 : decode cL_law 705 = .ok (.iadd, 1) := by decide +kernel
theorem dL_law_706 : decode cL_law 706 = .ok (.iaload, 1) := by decide +kernel
theorem dL_law_707 : decode cL_law 707 = .ok (.aload_n 0, 1) := by decide +kernel
theorem dL_law_708 : decode cL_law 708 = .ok (.iload_n 3, 1) := by decide +kernel
theorem dL_law_709 : decode cL_law 709 = .ok (.iconst 3, 1) := by decide +kernel
theorem dL_law_710 : decode cL_law 710 = .ok (.iadd, 1) := by decide +kernel
theorem dL_law_711 : decode cL_law 711 = .ok (.iaload, 1) := by decide +kernel
theorem dL_law_712 : decode cL_law 712 = .ok (.invokevirtual 90, 3) := by decide +kernel
theorem dL_law_715 : decode cL_law 715 = .ok (.aload_n 2, 1) := by decide +kernel
theorem dL_law_716 : decode cL_law 716 = .ok (.aload_n 0, 1) := by decide +kernel
theorem dL_law_717 : decode cL_law 717 = .ok (.iload_n 3, 1) := by decide +kernel
theorem dL_law_718 : decode cL_law 718 = .ok (.iconst 1, 1) := by decide +kernel
theorem dL_law_719 : decode cL_law 719 = .ok (.iadd, 1) := by decide +kernel
theorem dL_law_720 : decode cL_law 720 = .ok (.iaload, 1) := by decide +kernel
theorem dL_law_721 : decode cL_law 721 = .ok (.aload_n 0, 1) := by decide +kernel
theorem dL_law_722 : decode cL_law 722 = .ok (.iload_n 3, 1) := by decide +kernel
theorem dL_law_723 : decode cL_law 723 = .ok (.iconst 2, 1) := by decide +kernel
theorem dL_law_724 : decode cL_law 724 = .ok (.iadd, 1) := by decide +kernel
theorem dL_law_725 : decode cL_law 725 = .ok (.iaload, 1) := by decide +kernel
theorem dL_law_726 : decode cL_law 726 = .ok (.aload_n 0, 1) := by decide +kernel
theorem dL_law_727 : decode cL_law 727 = .ok (.iload_n 3, 1) := by decide +kernel
theorem dL_law_728 : decode cL_law 728 = .ok (.iconst 3, 1) := by decide +kernel
theorem dL_law_729 : decode cL_law 729 = .ok (.iadd, 1) := by decide +kernel
theorem dL_law_730 : decode cL_law 730 = .ok (.iaload, 1) := by decide +kernel
theorem dL_law_731 : decode cL_law 731 = .ok (.invokevirtual 93, 3) := by decide +kernel
theorem dL_law_734 : decode cL_law 734 = .ok (.if_icmp .eq 68, 3) := by decide +kernel
theorem dL_law_737 : decode cL_law 737 = .ok (.iconst 0, 1) := by decide +kernel
theorem dL_law_738 : decode cL_law 738 = .ok (.ireturn, 1) := by decide +kernel
theorem dL_law_739 : decode cL_law 739 = .ok (.aload_n 1, 1) := by decide +kernel
theorem dL_law_740 : decode cL_law 740 = .ok (.invokevirtual 94, 3) := by decide +kernel
theorem dL_law_743 : decode cL_law 743 = .ok (.aload_n 2, 1) := by decide +kernel
theorem dL_law_744 : decode cL_law 744 = .ok (.invokevirtual 97, 3) := by decide +kernel
theorem dL_law_747 : decode cL_law 747 = .ok (.if_icmp .eq 55, 3) := by decide +kernel
theorem dL_law_750 : decode cL_law 750 = .ok (.iconst 0, 1) := by decide +kernel
theorem dL_law_751 : decode cL_law 751 = .ok (.ireturn, 1) := by decide +kernel
theorem dL_law_752 : decode cL_law 752 = .ok (.aload_n 1, 1) := by decide +kernel
theorem dL_law_753 : decode cL_law 753 = .ok (.invokevirtual 98, 3) := by decide +kernel
theorem dL_law_756 : decode cL_law 756 = .ok (.aload_n 2, 1) := by decide +kernel
theorem dL_law_757 : decode cL_law 757 = .ok (.invokevirtual 101, 3) := by decide +kernel
theorem dL_law_760 : decode cL_law 760 = .ok (.if_icmp .eq 42, 3) := by decide +kernel
theorem dL_law_763 : decode cL_law 763 = .ok (.iconst 0, 1) := by decide +kernel
theorem dL_law_764 : decode cL_law 764 = .ok (.ireturn, 1) := by decide +kernel
theorem dL_law_765 : decode cL_law 765 = .ok (.aload_n 1, 1) := by decide +kernel
theorem dL_law_766 : decode cL_law 766 = .ok (.aload_n 0, 1) := by decide +kernel
theorem dL_law_767 : decode cL_law 767 = .ok (.iload_n 3, 1) := by decide +kernel
theorem dL_law_768 : decode cL_law 768 = .ok (.iconst 1, 1) := by decide +kernel
theorem dL_law_769 : decode cL_law 769 = .ok (.iadd, 1) := by decide +kernel
theorem dL_law_770 : decode cL_law 770 = .ok (.iaload, 1) := by decide +kernel
theorem dL_law_771 : decode cL_law 771 = .ok (.invokevirtual 102, 3) := by decide +kernel
theorem dL_law_774 : decode cL_law 774 = .ok (.aload_n 2, 1) := by decide +kernel
theorem dL_law_775 : decode cL_law 775 = .ok (.aload_n 0, 1) := by decide +kernel
theorem dL_law_776 : decode cL_law 776 = .ok (.iload_n 3, 1) := by decide +kernel
theorem dL_law_777 : decode cL_law 777 = .ok (.iconst 1, 1) := by decide +kernel
theorem dL_law_778 : decode cL_law 778 = .ok (.iadd, 1) := by decide +kernel
theorem dL_law_779 : decode cL_law 779 = .ok (.iaload, 1) := by decide +kernel
theorem dL_law_780 : decode cL_law 780 = .ok (.invokevirtual 105, 3) := by decide +kernel
theorem dL_law_783 : decode cL_law 783 = .ok (.if_icmp .eq 19, 3) := by decide +kernel
theorem dL_law_786 : decode cL_law 786 = .ok (.iconst 0, 1) := by decide +kernel
theorem dL_law_787 : decode cL_law 787 = .ok (.ireturn, 1) := by decide +kernel
theorem dL_law_788 : decode cL_law 788 = .ok (.aload_n 1, 1) := by decide +kernel
theorem dL_law_789 : decode cL_law 789 = .ok (.invokevirtual 106, 3) := by decide +kernel
theorem dL_law_792 : decode cL_law 792 = .ok (.aload_n 2, 1) := by decide +kernel
theorem dL_law_793 : decode cL_law 793 = .ok (.invokevirtual 110, 3) := by decide +kernel
theorem dL_law_796 : decode cL_law 796 = .ok (.lcmp, 1) := by decide +kernel
theorem dL_law_797 : decode cL_law 797 = .ok (.ifCond .eq 5, 3) := by decide +kernel
theorem dL_law_800 : decode cL_law 800 = .ok (.iconst 0, 1) := by decide +kernel
theorem dL_law_801 : decode cL_law 801 = .ok (.ireturn, 1) := by decide +kernel
theorem dL_law_802 : decode cL_law 802 = .ok (.iinc 3 4, 3) := by decide +kernel
theorem dL_law_805 : decode cL_law 805 = .ok (.goto (-787), 3) := by decide +kernel
theorem dL_law_808 : decode cL_law 808 = .ok (.iconst 1, 1) := by decide +kernel
theorem dL_law_809 : decode cL_law 809 = .ok (.ireturn, 1) := by decide +kernel
abbrev vwCl : List vw_C := [(RX0, TX0, 7), (RX1, TX1, 9), (RX2, TX2, 10), (RX3, TX3, 29)]
end
section
/-! numbers: a natural number n as an int is nI n, a Bool is zx_b, an integer is zx_i -/
def zx_up {α : Type} (f : Nat → α) (k : Nat) (x : α) : Nat → α := fun j => cond (Nat.beq j k) x (f j)
theorem zx_beq {j k : Nat} (h : j ≠ k) : Nat.beq j k = false := by
  cases q : Nat.beq j k
  · rfl
  · exact absurd (Nat.eq_of_beq_eq_true q) h
theorem zx_up_eq {α : Type} (f : Nat → α) (k : Nat) (x : α) : zx_up f k x k = x := by simp [zx_up]
theorem zx_up_ne {α : Type} (f : Nat → α) {k j : Nat} (x : α) (h : j ≠ k) : zx_up f k x j = f j := by simp [zx_up, zx_beq h]
theorem zx_up_if {α : Type} (f : Nat → α) (k j : Nat) (x : α) : zx_up f k x j = if j = k then x else f j := by
  by_cases h : j = k
  · subst h; simp [zx_up]
  · simp [zx_up, zx_beq h, h]
def zx_b (b : Bool) : Int32 := cond b 1 0
def zx_i (z : Int) : Int32 := Int32.ofInt z
def zx_n (b : Bool) : Nat := cond b 1 0
theorem zx_b_n (b : Bool) : zx_b b = nI (zx_n b) := by cases b <;> decide
theorem zx_b_1 : nI 1 = zx_b true := by decide
theorem zx_b_0 : nI 0 = zx_b false := by decide
theorem zx_b_t {b : Bool} (h : b = true) : nI 1 = zx_b b := by subst h; decide
theorem zx_b_f {b : Bool} (h : b = false) : nI 0 = zx_b b := by subst h; decide
theorem zx_b_eq0 (b : Bool) : zx_b b = 0 ↔ b = false := by cases b <;> decide
theorem zx_nar (b : Bool) : narrow .boolean (.int (zx_b b)) = .int (zx_b b) := by cases b <;> rfl
theorem zx_nar1 : narrow .boolean (.int (nI 1)) = .int (nI 1) := rfl
theorem zx_nar0 : narrow .boolean (.int (nI 0)) = .int (nI 0) := rfl
theorem zx_and (a b : Nat) : nI a &&& nI b = nI (a &&& b) := by
  apply Int32.toBitVec_inj.1
  show BitVec.ofNat 32 a &&& BitVec.ofNat 32 b = BitVec.ofNat 32 (a &&& b)
  apply BitVec.eq_of_getLsbD_eq
  intro i hi
  simp [hi]
theorem zx_or (a b : Nat) : nI a ||| nI b = nI (a ||| b) := by
  apply Int32.toBitVec_inj.1
  show BitVec.ofNat 32 a ||| BitVec.ofNat 32 b = BitVec.ofNat 32 (a ||| b)
  apply BitVec.eq_of_getLsbD_eq
  intro i hi
  simp [hi]
theorem zx_sl : ∀ n, n < 32 → ((nI n &&& 31).toBitVec.smod 32).toNat = n := by decide
theorem zx_shl0 {a k : Nat} (hk : k < 32) (h : a * 2 ^ k < 2 ^ 32) : nI a <<< (nI k &&& 31) = nI (a * 2 ^ k) := pk_shlN _ k (zx_sl k hk) h
theorem zx_shr0 {a k : Nat} (ha : a < 2 ^ 31) (hk : k < 32) : nI a >>> (nI k &&& 31) = nI (a / 2 ^ k) := pk_shrN ha _ k (zx_sl k hk)
theorem zx_eq0 {a : Nat} (ha : a < 2 ^ 31) : nI a = 0 ↔ a = 0 := by
  rw [← nI_0, nI_eq ha (by decide)]
theorem zx_updN (f : Nat → Nat) (k x : Nat) : upd (fun j => nI (f j)) k (nI x) = fun j => nI (zx_up f k x j) := by
  funext j
  by_cases h : j = k
  · subst h; simp [upd, zx_up]
  · simp [upd, zx_up, zx_beq h, h]
theorem zx_updI (f : Nat → Int) (k : Nat) (x : Int) : upd (fun j => zx_i (f j)) k (zx_i x) = fun j => zx_i (zx_up f k x j) := by
  funext j
  by_cases h : j = k
  · subst h; simp [upd, zx_up]
  · simp [upd, zx_up, zx_beq h, h]
theorem zx_i_n (n : Nat) : zx_i (n : Int) = nI n := rfl
theorem zx_i_add (a b : Int) : zx_i a + zx_i b = zx_i (a + b) := (Int32.ofInt_add a b).symm
theorem zx_i_neg (a : Int) : - zx_i a = zx_i (-a) := (Int32.ofInt_neg a).symm
theorem zx_i_toInt {z : Int} (h1 : -2147483648 ≤ z) (h2 : z < 2147483648) : (zx_i z).toInt = z := by
  unfold zx_i
  rw [Int32.toInt_ofInt, show Int32.size = 4294967296 from rfl]
  exact Int.bmod_eq_of_le (by omega) (by omega)
section ZR
variable {p : Program} {l : Launch} {e : Env} {R : Room} {s : State} {m : MethodId} {args : Array Value} {below : List Frame} {meth : Method} {c : Code} {H : Heap} {locs : List Loc} {cells slots : Nat} {Q : State → Prop}
variable {cc : ByteArray} {pc : Nat} {ls : Array Slot} {rest : List Value}
theorem zx_iadd (hexec : p.tables.exec = Jvm.exec) (hb : c.code = cc) {a b : Nat} (hdg : decode cc pc = .ok (.iadd, 1)) (k : W p l e R s m args below meth c H locs cells slots Q (F0 m (pc + 1) ls (.int (nI (a + b)) :: rest))) : W p l e R s m args below meth c H locs cells slots Q (F0 m pc ls (.int (nI b) :: .int (nI a) :: rest)) :=
  lv_iadd hexec hb hdg (by rw [nI_add]; exact k)
theorem zx_isub (hexec : p.tables.exec = Jvm.exec) (hb : c.code = cc) {a b : Nat} (h : b ≤ a) (hdg : decode cc pc = .ok (.isub, 1)) (k : W p l e R s m args below meth c H locs cells slots Q (F0 m (pc + 1) ls (.int (nI (a - b)) :: rest))) : W p l e R s m args below meth c H locs cells slots Q (F0 m pc ls (.int (nI b) :: .int (nI a) :: rest)) :=
  lv_isub hexec hb hdg (by rw [pk_sub h]; exact k)
theorem zx_imul (hexec : p.tables.exec = Jvm.exec) (hb : c.code = cc) {a b : Nat} (hdg : decode cc pc = .ok (.imul, 1)) (k : W p l e R s m args below meth c H locs cells slots Q (F0 m (pc + 1) ls (.int (nI (a * b)) :: rest))) : W p l e R s m args below meth c H locs cells slots Q (F0 m pc ls (.int (nI b) :: .int (nI a) :: rest)) :=
  lv_imul hexec hb hdg (by rw [pk_mul]; exact k)
theorem zx_iand (hexec : p.tables.exec = Jvm.exec) (hb : c.code = cc) {a b : Nat} (hdg : decode cc pc = .ok (.iand, 1)) (k : W p l e R s m args below meth c H locs cells slots Q (F0 m (pc + 1) ls (.int (nI (a &&& b)) :: rest))) : W p l e R s m args below meth c H locs cells slots Q (F0 m pc ls (.int (nI b) :: .int (nI a) :: rest)) :=
  lv_iand hexec hb hdg (by rw [zx_and]; exact k)
theorem zx_ior (hexec : p.tables.exec = Jvm.exec) (hb : c.code = cc) {a b : Nat} (hdg : decode cc pc = .ok (.ior, 1)) (k : W p l e R s m args below meth c H locs cells slots Q (F0 m (pc + 1) ls (.int (nI (a ||| b)) :: rest))) : W p l e R s m args below meth c H locs cells slots Q (F0 m pc ls (.int (nI b) :: .int (nI a) :: rest)) :=
  lv_ior hexec hb hdg (by rw [zx_or]; exact k)
theorem zx_ishl (hexec : p.tables.exec = Jvm.exec) (hb : c.code = cc) {a b : Nat} (hk : b < 32) (h : a * 2 ^ b < 2 ^ 32) (hdg : decode cc pc = .ok (.ishl, 1)) (k : W p l e R s m args below meth c H locs cells slots Q (F0 m (pc + 1) ls (.int (nI (a * 2 ^ b)) :: rest))) : W p l e R s m args below meth c H locs cells slots Q (F0 m pc ls (.int (nI b) :: .int (nI a) :: rest)) :=
  lv_ishl hexec hb hdg (by rw [zx_shl0 hk h]; exact k)
theorem zx_ishl1 (hexec : p.tables.exec = Jvm.exec) (hb : c.code = cc) {b : Nat} (hk : b < 31) (hdg : decode cc pc = .ok (.ishl, 1)) (k : W p l e R s m args below meth c H locs cells slots Q (F0 m (pc + 1) ls (.int (nI (2 ^ b)) :: rest))) : W p l e R s m args below meth c H locs cells slots Q (F0 m pc ls (.int (nI b) :: .int (nI 1) :: rest)) :=
  lv_ishl hexec hb hdg (by rw [zx_shl0 (by omega) (by rw [Nat.one_mul]; exact Nat.pow_lt_pow_right (by decide) (by omega)), Nat.one_mul]; exact k)
theorem zx_ishr (hexec : p.tables.exec = Jvm.exec) (hb : c.code = cc) {a b : Nat} (ha : a < 2 ^ 31) (hk : b < 32) (hdg : decode cc pc = .ok (.ishr, 1)) (k : W p l e R s m args below meth c H locs cells slots Q (F0 m (pc + 1) ls (.int (nI (a / 2 ^ b)) :: rest))) : W p l e R s m args below meth c H locs cells slots Q (F0 m pc ls (.int (nI b) :: .int (nI a) :: rest)) :=
  lv_ishr hexec hb hdg (by rw [zx_shr0 ha hk]; exact k)
theorem zx_idiv (hexec : p.tables.exec = Jvm.exec) (hb : c.code = cc) {a b : Nat} (ha : a < 2 ^ 31) (h0 : 0 < b) (hb2 : b < 2 ^ 31) (hdg : decode cc pc = .ok (.idiv, 1)) (k : W p l e R s m args below meth c H locs cells slots Q (F0 m (pc + 1) ls (.int (nI (a / b)) :: rest))) : W p l e R s m args below meth c H locs cells slots Q (F0 m pc ls (.int (nI b) :: .int (nI a) :: rest)) :=
  lv_idiv hexec hb hdg (nI_ne0 h0 hb2) (by rw [pk_div ha h0 hb2]; exact k)
theorem zx_irem (hexec : p.tables.exec = Jvm.exec) (hb : c.code = cc) {a b : Nat} (ha : a < 2 ^ 31) (h0 : 0 < b) (hb2 : b < 2 ^ 31) (hdg : decode cc pc = .ok (.irem, 1)) (k : W p l e R s m args below meth c H locs cells slots Q (F0 m (pc + 1) ls (.int (nI (a % b)) :: rest))) : W p l e R s m args below meth c H locs cells slots Q (F0 m pc ls (.int (nI b) :: .int (nI a) :: rest)) :=
  lv_irem hexec hb hdg (nI_ne0 h0 hb2) (by rw [pk_rem ha h0 hb2]; exact k)
theorem zx_icmp_ge (hexec : p.tables.exec = Jvm.exec) (hb : c.code = cc) {a b : Nat} {off : Int} {tgt : Nat} (ha : a < 2 ^ 31) (hb2 : b < 2 ^ 31) (hdg : decode cc pc = .ok (.if_icmp .ge off, 3)) (ht : (pc : Int) + off = (tgt : Int)) (kt : b ≤ a → W p l e R s m args below meth c H locs cells slots Q (F0 m tgt ls rest)) (kf : a < b → W p l e R s m args below meth c H locs cells slots Q (F0 m (pc + 3) ls rest)) : W p l e R s m args below meth c H locs cells slots Q (F0 m pc ls (.int (nI b) :: .int (nI a) :: rest)) :=
  lv_icmp_ge hexec hb hdg ht (fun h => kt ((nI_leI hb2 ha).mp h)) (fun h => kf (by rw [nI_leI hb2 ha] at h; omega))
theorem zx_icmp_lt (hexec : p.tables.exec = Jvm.exec) (hb : c.code = cc) {a b : Nat} {off : Int} {tgt : Nat} (ha : a < 2 ^ 31) (hb2 : b < 2 ^ 31) (hdg : decode cc pc = .ok (.if_icmp .lt off, 3)) (ht : (pc : Int) + off = (tgt : Int)) (kt : a < b → W p l e R s m args below meth c H locs cells slots Q (F0 m tgt ls rest)) (kf : b ≤ a → W p l e R s m args below meth c H locs cells slots Q (F0 m (pc + 3) ls rest)) : W p l e R s m args below meth c H locs cells slots Q (F0 m pc ls (.int (nI b) :: .int (nI a) :: rest)) :=
  lv_icmp_lt hexec hb hdg ht (fun h => kt ((nI_ltI ha hb2).mp h)) (fun h => kf (by rw [nI_ltI ha hb2] at h; omega))
theorem zx_icmp_gt (hexec : p.tables.exec = Jvm.exec) (hb : c.code = cc) {a b : Nat} {off : Int} {tgt : Nat} (ha : a < 2 ^ 31) (hb2 : b < 2 ^ 31) (hdg : decode cc pc = .ok (.if_icmp .gt off, 3)) (ht : (pc : Int) + off = (tgt : Int)) (kt : b < a → W p l e R s m args below meth c H locs cells slots Q (F0 m tgt ls rest)) (kf : a ≤ b → W p l e R s m args below meth c H locs cells slots Q (F0 m (pc + 3) ls rest)) : W p l e R s m args below meth c H locs cells slots Q (F0 m pc ls (.int (nI b) :: .int (nI a) :: rest)) :=
  lv_icmp_gt hexec hb hdg ht (fun h => kt ((nI_ltI hb2 ha).mp h)) (fun h => kf (by rw [nI_ltI hb2 ha] at h; omega))
theorem zx_icmp_le (hexec : p.tables.exec = Jvm.exec) (hb : c.code = cc) {a b : Nat} {off : Int} {tgt : Nat} (ha : a < 2 ^ 31) (hb2 : b < 2 ^ 31) (hdg : decode cc pc = .ok (.if_icmp .le off, 3)) (ht : (pc : Int) + off = (tgt : Int)) (kt : a ≤ b → W p l e R s m args below meth c H locs cells slots Q (F0 m tgt ls rest)) (kf : b < a → W p l e R s m args below meth c H locs cells slots Q (F0 m (pc + 3) ls rest)) : W p l e R s m args below meth c H locs cells slots Q (F0 m pc ls (.int (nI b) :: .int (nI a) :: rest)) :=
  lv_icmp_le hexec hb hdg ht (fun h => kt ((nI_leI ha hb2).mp h)) (fun h => kf (by rw [nI_leI ha hb2] at h; omega))
theorem zx_icmp_eq (hexec : p.tables.exec = Jvm.exec) (hb : c.code = cc) {a b : Nat} {off : Int} {tgt : Nat} (ha : a < 2 ^ 31) (hb2 : b < 2 ^ 31) (hdg : decode cc pc = .ok (.if_icmp .eq off, 3)) (ht : (pc : Int) + off = (tgt : Int)) (kt : a = b → W p l e R s m args below meth c H locs cells slots Q (F0 m tgt ls rest)) (kf : a ≠ b → W p l e R s m args below meth c H locs cells slots Q (F0 m (pc + 3) ls rest)) : W p l e R s m args below meth c H locs cells slots Q (F0 m pc ls (.int (nI b) :: .int (nI a) :: rest)) :=
  lv_icmp_eq hexec hb hdg ht (fun h => kt ((nI_eq ha hb2).mp h)) (fun h => kf (by rw [nI_eq ha hb2] at h; exact h))
theorem zx_icmp_ne (hexec : p.tables.exec = Jvm.exec) (hb : c.code = cc) {a b : Nat} {off : Int} {tgt : Nat} (ha : a < 2 ^ 31) (hb2 : b < 2 ^ 31) (hdg : decode cc pc = .ok (.if_icmp .ne off, 3)) (ht : (pc : Int) + off = (tgt : Int)) (kt : a ≠ b → W p l e R s m args below meth c H locs cells slots Q (F0 m tgt ls rest)) (kf : a = b → W p l e R s m args below meth c H locs cells slots Q (F0 m (pc + 3) ls rest)) : W p l e R s m args below meth c H locs cells slots Q (F0 m pc ls (.int (nI b) :: .int (nI a) :: rest)) :=
  lv_icmp_ne hexec hb hdg ht (fun h => kt (by rw [nI_eq ha hb2] at h; exact h)) (fun h => kf ((nI_eq ha hb2).mp h))
theorem zx_if_eq (hexec : p.tables.exec = Jvm.exec) (hb : c.code = cc) {a : Nat} {off : Int} {tgt : Nat} (ha : a < 2 ^ 31) (hdg : decode cc pc = .ok (.ifCond .eq off, 3)) (ht : (pc : Int) + off = (tgt : Int)) (kt : a = 0 → W p l e R s m args below meth c H locs cells slots Q (F0 m tgt ls rest)) (kf : a ≠ 0 → W p l e R s m args below meth c H locs cells slots Q (F0 m (pc + 3) ls rest)) : W p l e R s m args below meth c H locs cells slots Q (F0 m pc ls (.int (nI a) :: rest)) :=
  lv_if_eq hexec hb hdg ht (fun h => kt ((zx_eq0 ha).mp h)) (fun h => kf (by rw [zx_eq0 ha] at h; exact h))
theorem zx_if_ne (hexec : p.tables.exec = Jvm.exec) (hb : c.code = cc) {a : Nat} {off : Int} {tgt : Nat} (ha : a < 2 ^ 31) (hdg : decode cc pc = .ok (.ifCond .ne off, 3)) (ht : (pc : Int) + off = (tgt : Int)) (kt : a ≠ 0 → W p l e R s m args below meth c H locs cells slots Q (F0 m tgt ls rest)) (kf : a = 0 → W p l e R s m args below meth c H locs cells slots Q (F0 m (pc + 3) ls rest)) : W p l e R s m args below meth c H locs cells slots Q (F0 m pc ls (.int (nI a) :: rest)) :=
  lv_if_ne hexec hb hdg ht (fun h => kt (by rw [zx_eq0 ha] at h; exact h)) (fun h => kf ((zx_eq0 ha).mp h))
theorem zx_bf_eq (hexec : p.tables.exec = Jvm.exec) (hb : c.code = cc) {a : Bool} {off : Int} {tgt : Nat} (hdg : decode cc pc = .ok (.ifCond .eq off, 3)) (ht : (pc : Int) + off = (tgt : Int)) (kt : a = false → W p l e R s m args below meth c H locs cells slots Q (F0 m tgt ls rest)) (kf : a = true → W p l e R s m args below meth c H locs cells slots Q (F0 m (pc + 3) ls rest)) : W p l e R s m args below meth c H locs cells slots Q (F0 m pc ls (.int (zx_b a) :: rest)) :=
  lv_if_eq hexec hb hdg ht (fun h => kt ((zx_b_eq0 a).mp h)) (fun h => kf (by rw [zx_b_eq0] at h; simpa using h))
theorem zx_bf_ne (hexec : p.tables.exec = Jvm.exec) (hb : c.code = cc) {a : Bool} {off : Int} {tgt : Nat} (hdg : decode cc pc = .ok (.ifCond .ne off, 3)) (ht : (pc : Int) + off = (tgt : Int)) (kt : a = true → W p l e R s m args below meth c H locs cells slots Q (F0 m tgt ls rest)) (kf : a = false → W p l e R s m args below meth c H locs cells slots Q (F0 m (pc + 3) ls rest)) : W p l e R s m args below meth c H locs cells slots Q (F0 m pc ls (.int (zx_b a) :: rest)) :=
  lv_if_ne hexec hb hdg ht (fun h => kt (by rw [zx_b_eq0] at h; simpa using h)) (fun h => kf ((zx_b_eq0 a).mp h))
theorem zx_bc_ne (hexec : p.tables.exec = Jvm.exec) (hb : c.code = cc) {x y : Bool} {off : Int} {tgt : Nat} (hdg : decode cc pc = .ok (.if_icmp .ne off, 3)) (ht : (pc : Int) + off = (tgt : Int)) (kt : x ≠ y → W p l e R s m args below meth c H locs cells slots Q (F0 m tgt ls rest)) (kf : x = y → W p l e R s m args below meth c H locs cells slots Q (F0 m (pc + 3) ls rest)) : W p l e R s m args below meth c H locs cells slots Q (F0 m pc ls (.int (zx_b y) :: .int (zx_b x) :: rest)) :=
  lv_icmp_ne hexec hb hdg ht (fun h => kt (fun q => h (by rw [q]))) (fun h => kf (by cases x <;> cases y <;> first | rfl | exact absurd h (by decide)))
/-! arrays of numbers -/
theorem zx_ald (hexec : p.tables.exec = Jvm.exec) (hb : c.code = cc) {D : va_G} {cl : List vw_C} {a : Nat} {tys : List (ClassId × FieldType)} {ws : va_W} (hK : va_K D cl tys s) (hP : va_P D cl ws H) (q0 t0 : Nat) {cA : ClassId} {n i : Nat} {f : Nat → Nat} (ha : ws[q0]? = some (a, .inl (cA, n, .inl (fun j => nI (f j))))) (ht : tys[t0]? = some (cA, .int)) (hi : i < n) (hn : n < 2 ^ 31) (hdg : decode cc pc = .ok (.iaload, 1))
    (kk : W p l e R s m args below meth c H locs cells slots Q (F0 m (pc + 1) ls (.int (nI (f i)) :: rest))) : W p l e R s m args below meth c H locs cells slots Q (F0 m pc ls (.int (nI i) :: .ref a :: rest)) :=
  va_iald hexec hb hK hP q0 t0 ha ht (vp_in_nI hi hn) hdg (by
    show W p l e R s m args below meth c H locs cells slots Q (F0 m (pc + 1) ls (.int (nI (f (nI i).toNatClampNeg)) :: rest))
    rw [nI_clamp (by omega)]; exact kk)
theorem zx_aldI (hexec : p.tables.exec = Jvm.exec) (hb : c.code = cc) {D : va_G} {cl : List vw_C} {a : Nat} {tys : List (ClassId × FieldType)} {ws : va_W} (hK : va_K D cl tys s) (hP : va_P D cl ws H) (q0 t0 : Nat) {cA : ClassId} {n i : Nat} {f : Nat → Int} (ha : ws[q0]? = some (a, .inl (cA, n, .inl (fun j => zx_i (f j))))) (ht : tys[t0]? = some (cA, .int)) (hi : i < n) (hn : n < 2 ^ 31) (hdg : decode cc pc = .ok (.iaload, 1))
    (kk : W p l e R s m args below meth c H locs cells slots Q (F0 m (pc + 1) ls (.int (zx_i (f i)) :: rest))) : W p l e R s m args below meth c H locs cells slots Q (F0 m pc ls (.int (nI i) :: .ref a :: rest)) :=
  va_iald hexec hb hK hP q0 t0 ha ht (vp_in_nI hi hn) hdg (by
    show W p l e R s m args below meth c H locs cells slots Q (F0 m (pc + 1) ls (.int (zx_i (f (nI i).toNatClampNeg)) :: rest))
    rw [nI_clamp (by omega)]; exact kk)
theorem zx_bld (hexec : p.tables.exec = Jvm.exec) (hb : c.code = cc) {D : va_G} {cl : List vw_C} {a : Nat} {tys : List (ClassId × FieldType)} {ws : va_W} (hK : va_K D cl tys s) (hP : va_P D cl ws H) (q0 t0 : Nat) {cA : ClassId} {n i : Nat} {f : Nat → Nat} (ha : ws[q0]? = some (a, .inl (cA, n, .inl (fun j => nI (f j))))) (ht : tys[t0]? = some (cA, .byte)) (hi : i < n) (hn : n < 2 ^ 31) (hdg : decode cc pc = .ok (.baload, 1))
    (kk : W p l e R s m args below meth c H locs cells slots Q (F0 m (pc + 1) ls (.int (nI (f i)) :: rest))) : W p l e R s m args below meth c H locs cells slots Q (F0 m pc ls (.int (nI i) :: .ref a :: rest)) :=
  va_bald hexec hb hK hP q0 t0 ha ht (vp_in_nI hi hn) hdg (by
    show W p l e R s m args below meth c H locs cells slots Q (F0 m (pc + 1) ls (.int (nI (f (nI i).toNatClampNeg)) :: rest))
    rw [nI_clamp (by omega)]; exact kk)
theorem zx_ast (hexec : p.tables.exec = Jvm.exec) (hb : c.code = cc) {D : va_G} {cl : List vw_C} {a : Nat} {A : Nat → Prop} {H0 : Heap} {tys : List (ClassId × FieldType)} {ws ws' : va_W} (hK : va_K D cl tys s) (hP : va_P D cl ws H) (hD : va_D A ws) (hS : va_S A H0 H locs) (q0 t0 : Nat) {cA : ClassId} {n i x : Nat} {f : Nat → Nat} (ha : ws[q0]? = some (a, .inl (cA, n, .inl (fun j => nI (f j))))) (ht : tys[t0]? = some (cA, .int)) (hi : i < n) (hn : n < 2 ^ 31) (hu : ws.set q0 (a, .inl (cA, n, .inl (fun j => nI (zx_up f i x j)))) = ws') (hdg : decode cc pc = .ok (.iastore, 1))
    (kk : ∀ (H1 : Heap) (locs1 : List Loc), va_P D cl ws' H1 → va_D A ws' → va_S A H0 H1 locs1 → W p l e R s m args below meth c H1 locs1 cells slots Q (F0 m (pc + 1) ls rest)) : W p l e R s m args below meth c H locs cells slots Q (F0 m pc ls (.int (nI x) :: .int (nI i) :: .ref a :: rest)) := by
  refine va_iast hexec hb hK hP hD hS q0 t0 ha ht (vp_in_nI hi hn) hdg (fun H1 locs1 h1 h2 h3 => ?_)
  rw [nI_clamp (by omega), zx_updN, hu] at h1 h2
  exact kk H1 locs1 h1 h2 h3
theorem zx_astI (hexec : p.tables.exec = Jvm.exec) (hb : c.code = cc) {D : va_G} {cl : List vw_C} {a : Nat} {A : Nat → Prop} {H0 : Heap} {tys : List (ClassId × FieldType)} {ws ws' : va_W} (hK : va_K D cl tys s) (hP : va_P D cl ws H) (hD : va_D A ws) (hS : va_S A H0 H locs) (q0 t0 : Nat) {cA : ClassId} {n i : Nat} {x : Int} {f : Nat → Int} (ha : ws[q0]? = some (a, .inl (cA, n, .inl (fun j => zx_i (f j))))) (ht : tys[t0]? = some (cA, .int)) (hi : i < n) (hn : n < 2 ^ 31) (hu : ws.set q0 (a, .inl (cA, n, .inl (fun j => zx_i (zx_up f i x j)))) = ws') (hdg : decode cc pc = .ok (.iastore, 1))
    (kk : ∀ (H1 : Heap) (locs1 : List Loc), va_P D cl ws' H1 → va_D A ws' → va_S A H0 H1 locs1 → W p l e R s m args below meth c H1 locs1 cells slots Q (F0 m (pc + 1) ls rest)) : W p l e R s m args below meth c H locs cells slots Q (F0 m pc ls (.int (zx_i x) :: .int (nI i) :: .ref a :: rest)) := by
  refine va_iast hexec hb hK hP hD hS q0 t0 ha ht (vp_in_nI hi hn) hdg (fun H1 locs1 h1 h2 h3 => ?_)
  rw [nI_clamp (by omega), zx_updI, hu] at h1 h2
  exact kk H1 locs1 h1 h2 h3
theorem zx_narB : ∀ x, x < 128 → vp_nar .byte (nI x) = nI x ∧ (nI x).toInt8.toInt32 = nI x := by decide +kernel
theorem zx_bst (hexec : p.tables.exec = Jvm.exec) (hb : c.code = cc) {D : va_G} {cl : List vw_C} {a : Nat} {A : Nat → Prop} {H0 : Heap} {tys : List (ClassId × FieldType)} {ws ws' : va_W} (hK : va_K D cl tys s) (hP : va_P D cl ws H) (hD : va_D A ws) (hS : va_S A H0 H locs) (q0 t0 : Nat) {cA : ClassId} {n i x : Nat} {f : Nat → Nat} (ha : ws[q0]? = some (a, .inl (cA, n, .inl (fun j => nI (f j))))) (ht : tys[t0]? = some (cA, .byte)) (hi : i < n) (hn : n < 2 ^ 31) (hx : x < 128) (hu : ws.set q0 (a, .inl (cA, n, .inl (fun j => nI (zx_up f i x j)))) = ws') (hdg : decode cc pc = .ok (.bastore, 1))
    (kk : ∀ (H1 : Heap) (locs1 : List Loc), va_P D cl ws' H1 → va_D A ws' → va_S A H0 H1 locs1 → W p l e R s m args below meth c H1 locs1 cells slots Q (F0 m (pc + 1) ls rest)) : W p l e R s m args below meth c H locs cells slots Q (F0 m pc ls (.int (nI x) :: .int (nI i) :: .ref a :: rest)) := by
  refine va_bast hexec hb hK hP hD hS q0 t0 ha ht (vp_in_nI hi hn) hdg (fun H1 locs1 h1 h2 h3 => ?_)
  rw [nI_clamp (by omega), (zx_narB x hx).1, zx_updN, hu] at h1 h2
  exact kk H1 locs1 h1 h2 h3
theorem zx_put (hexec : p.tables.exec = Jvm.exec) (hb : c.code = cc) {D : va_G} {cl : List vw_C} {a : Nat} {A : Nat → Prop} {H0 : Heap} {tys : List (ClassId × FieldType)} {ws ws' : va_W} {own ref C : String} {T : u_T} {N ci index : Nat} {Ts : List Cond} (hts : ∀ w ∈ Ts, w.before args s = true) (hin : ∀ w ∈ u_ws C T N, w ∈ Ts) (ty0 : Nat → FieldType) (hty : ∀ k, k < N → parseFieldDescriptor (T k).2.2.1 = some (ty0 k)) (hnm : ∀ a, a < N → ∀ b, b < N → a ≠ b → (T a).2.1 ≠ (T b).2.1) (hown : s.vm.findClass own = some m.cls) (hK : va_K D cl tys s) (hP : va_P D cl ws H) (hD : va_D A ws) (hS0 : va_S A H0 H locs) (q0 : Nat) {fs : List Value} (he : ws[q0]? = some (a, .inr (ci, fs))) (hc : cl[ci]? = some (C, T, N)) (k : Nat) (hk : k < N) (hlink : (Cond.fieldLink own index ref (T k).2.1 (T k).2.2.1).before args s = true) (hsame : ∀ x, s.fieldFound? (T k).1 (T k).2.1 (T k).2.2.1 = some x → s.fieldFound? ref (T k).2.1 (T k).2.2.1 = some x) (hfin : (T k).2.2.2 = false) {ty : FieldType} {v : Value} (hd : parseFieldDescriptor (T k).2.2.1 = some ty) (hn : narrow ty v = v) (hfit : fits ty v = true) (hl : k < fs.length) (hu : ws.set q0 (a, .inr (ci, fs.set k v)) = ws')
    (hdg : decode cc pc = .ok (.putfield index, 3)) (kk : ∀ (H1 : Heap) (locs1 : List Loc), va_P D cl ws' H1 → va_D A ws' → va_S A H0 H1 locs1 → W p l e R s m args below meth c H1 locs1 cells slots Q (F0 m (pc + 3) ls rest)) : W p l e R s m args below meth c H locs cells slots Q (F0 m pc ls (v :: .ref a :: rest)) := by
  refine va_put hexec hb hts hin ty0 hty hnm hown hK hP hD hS0 q0 he hc k hk hlink hsame hfin hd hn hfit hl hdg (fun H1 locs1 h1 h2 h3 => ?_)
  rw [hu] at h1 h2
  exact kk H1 locs1 h1 h2 h3
end ZR
/-! a contract: from any heap that holds the world of the state u, the answer and the state behind it are as post says -/
def zx_Q {ρ σ : Type} (em : ρ → Option Value) (post : ρ → σ → Prop) (B : σ → State → Prop) (A : Nat → Prop) : Array Value → State → Outcome → State → Prop := fun _ st oc t => (∃ (r : ρ) (u : σ), oc = .returned (em r) ∧ post r u ∧ B u t) ∧ va_F A st t
def zx_B {σ : Type} (D : va_G) (tys : List (ClassId × FieldType)) (w : σ → va_W) (A : Nat → Prop) (u : σ) (t : State) : Prop := va_P D vwCl (w u) t.heap ∧ va_K D vwCl tys t ∧ va_D A (w u)
/-- nest mates that the system's methods call, as the tables link them -/
def zx_N (U : State) : Prop := va_Nw (.methodLinkNest RX0 24 yX2_putsIfEmpty RX2) U ∧ va_Nw (.methodLinkNest RX0 28 yX2_putsIfThere RX2) U ∧ va_Nw (.methodLinkNest RX0 53 yX2_bitOf RX2) U
theorem zx_N_same {u U : State} (h : u.vm = U.vm) (hN : zx_N u) : zx_N U := ⟨va_Nw.same rfl h hN.1, va_Nw.same rfl h hN.2.1, va_Nw.same rfl h hN.2.2⟩
theorem zx_N_warm {s U : State} (hW : s.WarmedH U.vm) (hN : zx_N s) : zx_N U := ⟨va_Nw.warmM hW hN.1, va_Nw.warmM hW hN.2.1, va_Nw.warmM hW hN.2.2⟩
def zx_C {ρ σ : Type} (em : ρ → Option Value) (l : Launch) (D : va_G) (tys : List (ClassId × FieldType)) (w : σ → va_W) (y : MethodName) (ws : List Cond) (rm : Room) (av : List Value) (u : σ) (post : ρ → σ → Prop) : Prop :=
  ∀ sz : Nat, Met l y ws rm (va_Pc av (fun U => U.heap.size = sz ∧ va_P D vwCl (w u) U.heap ∧ va_K D vwCl tys U ∧ zx_N U ∧ va_D (fun _ => True) (w u))) (zx_Q em post (zx_B D tys w (va_A (w u) sz)) (va_A (w u) sz)) 0 0 (va_A (w u) sz)
def zx_ei : Int32 → Option Value := fun x => some (.int x)
def zx_el : Int64 → Option Value := fun x => some (.long x)
def zx_ev : Unit → Option Value := fun _ => none
def zx_ea : Nat → Option Value := fun x => some (.ref x)
section ZC
variable {p : Program} {l : Launch} {e : Env} {R : Room} {s : State} {m : MethodId} {args : Array Value} {below : List Frame} {meth : Method} {c : Code} {H : Heap} {locs : List Loc} {cells slots : Nat} {Q : State → Prop}
variable {cc bytes : ByteArray} {pc : Nat} {ls : Array Slot} {rest st0 : List Value} {a : Array Value} {A0 A1 : Nat → Prop} {H0 : Heap} {mc ms : Nat} {free : Addr → Prop}
theorem zx_call {ρ σ : Type} {em : ρ → Option Value} {post : ρ → σ → Prop} {B : σ → State → Prop} (hr : va_Run p l e R s m args below meth c H locs cells slots mc ms (F0 m pc ls st0) rest (zx_Q em post B A1 a) free) (hS : va_S A0 H0 H locs) (hA : ∀ q, q < H.size → A1 q → A0 q) (hf : ∀ q, free q → A0 q)
    (kk : ∀ (r : ρ) (u : σ) (t : State) (H1 : Heap) (locs1 : List Loc), t.heap = H1 → s.vm.Alike t.vm → post r u → B u t → H.size ≤ H1.size → (∀ q : Nat, q < H.size → ¬ A1 q → H1[q]? = H[q]?) → va_S A0 H0 H1 locs1 → W p l e R s m args below meth c H1 locs1 (cells + mc) (slots + ms) Q (F0 m (pc + 3) ls ((em r).toList ++ rest))) : W p l e R s m args below meth c H locs cells slots Q (F0 m pc ls st0) := by
  intro T hT X
  obtain ⟨v, st₀, t, T', L, h0, X', hL, e1, e2, ⟨⟨r, u, hv, hp, hb⟩, hz, hk⟩, st⟩ := hr T hT X
  cases hv
  rw [h0] at hz hk
  obtain ⟨t2, a1, b1⟩ := kk r u t T'.heap (locs ++ L) e1.symm (by rw [← e2]; exact X'.warmed.alike) hp hb (by rw [e1]; exact hz) (fun q h1 h2 => by rw [e1]; exact hk q h1 h2)
    ⟨Nat.le_trans hS.1 (by rw [e1]; exact hz), fun q h1 h2 => by rw [e1, hk q (Nat.lt_of_lt_of_le h1 hS.1) (fun z => h2 (hA q (Nat.lt_of_lt_of_le h1 hS.1) z))]; exact hS.2.1 q h1 h2, fun q hq => by
      rcases List.mem_append.mp hq with h | h
      · exact hS.2.2 q h
      · exact hf _ (hL q h)⟩ T' rfl X'
  exact ⟨t2, st t2 a1, b1⟩
theorem zx_blind {σ : Type} {D : va_G} {tys : List (ClassId × FieldType)} {w : σ → va_W} {av : List Value} {u : σ} {sz : Nat} : FrameBlind (va_Pc av (fun U => U.heap.size = sz ∧ va_P D vwCl (w u) U.heap ∧ va_K D vwCl tys U ∧ zx_N U ∧ va_D (fun _ => True) (w u))) := fun a U g mk q => by
  obtain ⟨q0, q1, qP, qK, qN, qD⟩ := q
  exact ⟨q0, q1, qP, va_K.moved (u := U) (U := U.calling g mk a) (Vm.Alike.refl U.vm) qK, zx_N_same (u := U) (U := U.calling g mk a) rfl qN, qD⟩
theorem zx_pre {σ : Type} {D : va_G} {tys : List (ClassId × FieldType)} {w : σ → va_W} {av : List Value} {u : σ} {A : Nat → Prop} (hK : va_K D vwCl tys s) (hN : zx_N s) (hP : va_P D vwCl (w u) H) (hD : va_D A (w u)) : ∀ U : State, U.heap = H → s.WarmedH U.vm → va_Pc av (fun U => U.heap.size = H.size ∧ va_P D vwCl (w u) U.heap ∧ va_K D vwCl tys U ∧ zx_N U ∧ va_D (fun _ => True) (w u)) av.toArray U :=
  fun U hU hW => ⟨rfl, by rw [hU], by rw [hU]; exact hP, va_K.moved hW.alike hK, zx_N_warm hW hN, hD.weaken (fun _ _ _ _ => trivial)⟩
theorem zx_frA {A : Nat → Prop} {ws : va_W} {H0 H : Heap} {locs : List Loc} (hD : va_D A ws) (hS : va_S A H0 H locs) (hA : ∀ q, H0.size ≤ q → A q) : ∀ q, va_A ws H.size q → A q := by
  intro q h
  rcases h with ⟨k, e, h⟩ | h
  · exact hD.2 k (q, e) h
  · exact hA q (Nat.le_trans hS.1 h)
/-- a call of a method on this very world -/
theorem zx_same {ρ σ : Type} {em : ρ → Option Value} {D : va_G} {tys : List (ClassId × FieldType)} {w : σ → va_W} {u : σ} {post : ρ → σ → Prop} {A : Nat → Prop} (hr : va_Run p l e R s m args below meth c H locs cells slots 0 0 (F0 m pc ls st0) rest (zx_Q em post (zx_B D tys w (va_A (w u) H.size)) (va_A (w u) H.size) a) (va_A (w u) H.size)) (hD : va_D A (w u)) (hS : va_S A H0 H locs) (hA : ∀ q, H0.size ≤ q → A q)
    (kk : ∀ (r : ρ) (u' : σ) (H1 : Heap) (locs1 : List Loc), post r u' → va_P D vwCl (w u') H1 → va_D A (w u') → va_S A H0 H1 locs1 → W p l e R s m args below meth c H1 locs1 cells slots Q (F0 m (pc + 3) ls ((em r).toList ++ rest))) : W p l e R s m args below meth c H locs cells slots Q (F0 m pc ls st0) := by
  have hF := zx_frA hD hS hA
  refine zx_call hr hS (fun q _ h => hF q h) hF (fun r u' t H1 locs1 ht hvm hw hB hz1 hk1 hS1 => ?_)
  obtain ⟨hP1, hK1, hD1⟩ := hB
  rw [ht] at hP1
  exact kk r u' H1 locs1 hw hP1 (hD1.weaken (fun _ q _ h => hF q.1 h)) hS1
theorem zx_V_i {σ : Type} {D : va_G} {tys : List (ClassId × FieldType)} {w : σ → va_W} {u : σ} {post : Int32 → σ → Prop} {A : Nat → Prop} {y : MethodName} {maxL nL n index : Nat} {ret : Option FieldType} {ws Ts : List Cond} {rm : Room} {own C : String} {b : Addr} {As : List Value} {ci : Nat} {fs : List Value} {T : u_T} {N : Nat}
    (S : CallFix p m c cc nL s args Ts own) (hM : zx_C zx_ei l D tys w y ws rm (.ref b :: As) u post) (cw : CallW R s args own C index y bytes maxL ret ws rm 0 0 n) (hK : va_K D vwCl tys s) (hN : zx_N s) (hP : va_P D vwCl (w u) H) (hD : va_D A (w u)) (hS : va_S A H0 H locs) (hA : ∀ q, H0.size ≤ q → A q) (q0 : Nat) (hrv : (w u)[q0]? = some (b, .inr (ci, fs))) (hcl : vwCl[ci]? = some (C, T, N)) (hn : As.length = n) (hsize : ls.size = nL) (hst : st0 = As.reverse ++ .ref b :: rest) (hro : (rest.map fun v => v.category).sum ≤ 8) (hdg : decode cc pc = .ok (.invokevirtual index, 3)) (hf : cells ≤ R.cells ∧ slots ≤ R.slots)
    (kk : ∀ (r : Int32) (u' : σ) (H1 : Heap) (locs1 : List Loc), post r u' → va_P D vwCl (w u') H1 → va_D A (w u') → va_S A H0 H1 locs1 → W p l e R s m args below meth c H1 locs1 cells slots Q (F0 m (pc + 3) ls (.int r :: rest))) : W p l e R s m args below meth c H locs cells slots Q (F0 m pc ls st0) :=
  zx_same (va_runV (As := As) (rest := rest) S (hM H.size) cw ⟨zx_blind, va_recv hK hP hcl hrv, zx_pre hK hN hP hD⟩ rfl hn hsize hst (lv_room hro) hdg hf) hD hS hA kk
theorem zx_V_l {σ : Type} {D : va_G} {tys : List (ClassId × FieldType)} {w : σ → va_W} {u : σ} {post : Int64 → σ → Prop} {A : Nat → Prop} {y : MethodName} {maxL nL n index : Nat} {ret : Option FieldType} {ws Ts : List Cond} {rm : Room} {own C : String} {b : Addr} {As : List Value} {ci : Nat} {fs : List Value} {T : u_T} {N : Nat}
    (S : CallFix p m c cc nL s args Ts own) (hM : zx_C zx_el l D tys w y ws rm (.ref b :: As) u post) (cw : CallW R s args own C index y bytes maxL ret ws rm 0 0 n) (hK : va_K D vwCl tys s) (hN : zx_N s) (hP : va_P D vwCl (w u) H) (hD : va_D A (w u)) (hS : va_S A H0 H locs) (hA : ∀ q, H0.size ≤ q → A q) (q0 : Nat) (hrv : (w u)[q0]? = some (b, .inr (ci, fs))) (hcl : vwCl[ci]? = some (C, T, N)) (hn : As.length = n) (hsize : ls.size = nL) (hst : st0 = As.reverse ++ .ref b :: rest) (hro : (rest.map fun v => v.category).sum ≤ 8) (hdg : decode cc pc = .ok (.invokevirtual index, 3)) (hf : cells ≤ R.cells ∧ slots ≤ R.slots)
    (kk : ∀ (r : Int64) (u' : σ) (H1 : Heap) (locs1 : List Loc), post r u' → va_P D vwCl (w u') H1 → va_D A (w u') → va_S A H0 H1 locs1 → W p l e R s m args below meth c H1 locs1 cells slots Q (F0 m (pc + 3) ls (.long r :: rest))) : W p l e R s m args below meth c H locs cells slots Q (F0 m pc ls st0) :=
  zx_same (va_runV (As := As) (rest := rest) S (hM H.size) cw ⟨zx_blind, va_recv hK hP hcl hrv, zx_pre hK hN hP hD⟩ rfl hn hsize hst (lv_room hro) hdg hf) hD hS hA kk
theorem zx_V_v {σ : Type} {D : va_G} {tys : List (ClassId × FieldType)} {w : σ → va_W} {u : σ} {post : Unit → σ → Prop} {A : Nat → Prop} {y : MethodName} {maxL nL n index : Nat} {ret : Option FieldType} {ws Ts : List Cond} {rm : Room} {own C : String} {b : Addr} {As : List Value} {ci : Nat} {fs : List Value} {T : u_T} {N : Nat}
    (S : CallFix p m c cc nL s args Ts own) (hM : zx_C zx_ev l D tys w y ws rm (.ref b :: As) u post) (cw : CallW R s args own C index y bytes maxL ret ws rm 0 0 n) (hK : va_K D vwCl tys s) (hN : zx_N s) (hP : va_P D vwCl (w u) H) (hD : va_D A (w u)) (hS : va_S A H0 H locs) (hA : ∀ q, H0.size ≤ q → A q) (q0 : Nat) (hrv : (w u)[q0]? = some (b, .inr (ci, fs))) (hcl : vwCl[ci]? = some (C, T, N)) (hn : As.length = n) (hsize : ls.size = nL) (hst : st0 = As.reverse ++ .ref b :: rest) (hro : (rest.map fun v => v.category).sum ≤ 8) (hdg : decode cc pc = .ok (.invokevirtual index, 3)) (hf : cells ≤ R.cells ∧ slots ≤ R.slots)
    (kk : ∀ (r : Unit) (u' : σ) (H1 : Heap) (locs1 : List Loc), post r u' → va_P D vwCl (w u') H1 → va_D A (w u') → va_S A H0 H1 locs1 → W p l e R s m args below meth c H1 locs1 cells slots Q (F0 m (pc + 3) ls rest)) : W p l e R s m args below meth c H locs cells slots Q (F0 m pc ls st0) :=
  zx_same (va_runV (As := As) (rest := rest) S (hM H.size) cw ⟨zx_blind, va_recv hK hP hcl hrv, zx_pre hK hN hP hD⟩ rfl hn hsize hst (lv_room hro) hdg hf) hD hS hA kk
theorem zx_V_a {σ : Type} {D : va_G} {tys : List (ClassId × FieldType)} {w : σ → va_W} {u : σ} {post : Nat → σ → Prop} {A : Nat → Prop} {y : MethodName} {maxL nL n index : Nat} {ret : Option FieldType} {ws Ts : List Cond} {rm : Room} {own C : String} {b : Addr} {As : List Value} {ci : Nat} {fs : List Value} {T : u_T} {N : Nat}
    (S : CallFix p m c cc nL s args Ts own) (hM : zx_C zx_ea l D tys w y ws rm (.ref b :: As) u post) (cw : CallW R s args own C index y bytes maxL ret ws rm 0 0 n) (hK : va_K D vwCl tys s) (hN : zx_N s) (hP : va_P D vwCl (w u) H) (hD : va_D A (w u)) (hS : va_S A H0 H locs) (hA : ∀ q, H0.size ≤ q → A q) (q0 : Nat) (hrv : (w u)[q0]? = some (b, .inr (ci, fs))) (hcl : vwCl[ci]? = some (C, T, N)) (hn : As.length = n) (hsize : ls.size = nL) (hst : st0 = As.reverse ++ .ref b :: rest) (hro : (rest.map fun v => v.category).sum ≤ 8) (hdg : decode cc pc = .ok (.invokevirtual index, 3)) (hf : cells ≤ R.cells ∧ slots ≤ R.slots)
    (kk : ∀ (r : Nat) (u' : σ) (H1 : Heap) (locs1 : List Loc), post r u' → va_P D vwCl (w u') H1 → va_D A (w u') → va_S A H0 H1 locs1 → W p l e R s m args below meth c H1 locs1 cells slots Q (F0 m (pc + 3) ls (.ref r :: rest))) : W p l e R s m args below meth c H locs cells slots Q (F0 m pc ls st0) :=
  zx_same (va_runV (As := As) (rest := rest) S (hM H.size) cw ⟨zx_blind, va_recv hK hP hcl hrv, zx_pre hK hN hP hD⟩ rfl hn hsize hst (lv_room hro) hdg hf) hD hS hA kk
/-- a call of a static method on this very world -/
theorem zx_T_i {σ : Type} {D : va_G} {tys : List (ClassId × FieldType)} {w : σ → va_W} {u : σ} {post : Int32 → σ → Prop} {A : Nat → Prop} {y : MethodName} {maxL nL n index : Nat} {ret : Option FieldType} {ws Ts : List Cond} {rm : Room} {own : String} {As : List Value}
    (S : CallFix p m c cc nL s args Ts own) (hM : zx_C zx_ei l D tys w y ws rm As u post) (cw : CallB R s args own index y bytes maxL ret ws rm 0 0 n ∧ (Cond.static y).before args s = true) (hK : va_K D vwCl tys s) (hN : zx_N s) (hP : va_P D vwCl (w u) H) (hD : va_D A (w u)) (hS : va_S A H0 H locs) (hA : ∀ q, H0.size ≤ q → A q) (hn : As.length = n) (hsize : ls.size = nL) (hst : st0 = As.reverse ++ rest) (hro : (rest.map fun v => v.category).sum ≤ 8) (hdg : decode cc pc = .ok (.invokestatic index, 3)) (hf : cells ≤ R.cells ∧ slots ≤ R.slots)
    (kk : ∀ (r : Int32) (u' : σ) (H1 : Heap) (locs1 : List Loc), post r u' → va_P D vwCl (w u') H1 → va_D A (w u') → va_S A H0 H1 locs1 → W p l e R s m args below meth c H1 locs1 cells slots Q (F0 m (pc + 3) ls (.int r :: rest))) : W p l e R s m args below meth c H locs cells slots Q (F0 m pc ls st0) :=
  zx_same (va_runS (As := As) (rest := rest) S (hM H.size) cw ⟨zx_blind, zx_pre hK hN hP hD⟩ rfl hn hsize hst (lv_room hro) hdg hf) hD hS hA kk
/-- a static method that has no world: its contract, its call -/
def zx_w0 : Unit → va_W := fun _ => []
def zx_C0 (l : Launch) (D : va_G) (y : MethodName) (ws : List Cond) (rm : Room) (av : List Value) (r : Int32) : Prop := zx_C zx_ei l D [] zx_w0 y ws rm av () (fun x _ => x = r)
theorem zx_none {σ : Type} {D : va_G} {w : σ → va_W} {u : σ} {r : Int32} {A : Nat → Prop} (hr : va_Run p l e R s m args below meth c H locs cells slots 0 0 (F0 m pc ls st0) rest (zx_Q zx_ei (fun x _ => x = r) (zx_B D [] zx_w0 (va_A (zx_w0 ()) H.size)) (va_A (zx_w0 ()) H.size) a) (va_A (zx_w0 ()) H.size)) (hP : va_P D vwCl (w u) H) (hS : va_S A H0 H locs) (hA : ∀ q, H0.size ≤ q → A q)
    (kk : ∀ (H1 : Heap) (locs1 : List Loc), va_P D vwCl (w u) H1 → va_S A H0 H1 locs1 → W p l e R s m args below meth c H1 locs1 cells slots Q (F0 m (pc + 3) ls (.int r :: rest))) : W p l e R s m args below meth c H locs cells slots Q (F0 m pc ls st0) := by
  have hF : ∀ q, va_A (zx_w0 ()) H.size q → A q := by
    intro q h
    rcases h with ⟨k, e, h⟩ | h
    · simp [zx_w0] at h
    · exact hA q (Nat.le_trans hS.1 h)
  refine zx_call hr hS (fun q _ h => hF q h) hF (fun x u' t H1 locs1 ht hvm hw hB hz1 hk1 hS1 => ?_)
  subst hw
  refine kk H1 locs1 (hP.kept (fun k q hk => hk1 q.1 ((hP k q hk).lt) (fun h => ?_))) hS1
  have hlt := (hP k q hk).lt
  rcases h with ⟨k, e, h⟩ | h
  · simp [zx_w0] at h
  · omega
theorem zx_K0 {D : va_G} {tys : List (ClassId × FieldType)} (hK : va_K D vwCl tys s) : va_K D vwCl [] s := hK.sub [] rfl
theorem zx_P0 {D : va_G} : va_P D vwCl (zx_w0 ()) H := fun k q h => by simp [zx_w0] at h
theorem zx_D0 {A : Nat → Prop} : va_D A (zx_w0 ()) := ⟨fun i j p q h => by simp [zx_w0] at h, fun k q h => by simp [zx_w0] at h⟩
theorem zx_S {σ : Type} {D : va_G} {tys : List (ClassId × FieldType)} {w : σ → va_W} {u : σ} {x : Int32} {A : Nat → Prop} {y : MethodName} {maxL nL n index : Nat} {ret : Option FieldType} {ws Ts : List Cond} {rm : Room} {own : String} {As : List Value}
    (S : CallFix p m c cc nL s args Ts own) (hM : zx_C0 l D y ws rm As x) (cw : CallB R s args own index y bytes maxL ret ws rm 0 0 n ∧ (Cond.static y).before args s = true) (hK : va_K D vwCl tys s) (hN : zx_N s) (hP : va_P D vwCl (w u) H) (hS : va_S A H0 H locs) (hA : ∀ q, H0.size ≤ q → A q) (hn : As.length = n) (hsize : ls.size = nL) (hst : st0 = As.reverse ++ rest) (hro : (rest.map fun v => v.category).sum ≤ 8) (hdg : decode cc pc = .ok (.invokestatic index, 3)) (hf : cells ≤ R.cells ∧ slots ≤ R.slots)
    (kk : ∀ (H1 : Heap) (locs1 : List Loc), va_P D vwCl (w u) H1 → va_S A H0 H1 locs1 → W p l e R s m args below meth c H1 locs1 cells slots Q (F0 m (pc + 3) ls (.int x :: rest))) : W p l e R s m args below meth c H locs cells slots Q (F0 m pc ls st0) :=
  zx_none (va_runS (As := As) (rest := rest) S (hM H.size) cw ⟨zx_blind, zx_pre (zx_K0 hK) hN zx_P0 (zx_D0 (A := A))⟩ rfl hn hsize hst (lv_room hro) hdg hf) hP hS hA kk
theorem zx_SN {σ : Type} {D : va_G} {tys : List (ClassId × FieldType)} {w : σ → va_W} {u : σ} {x : Int32} {A : Nat → Prop} {y : MethodName} {maxL nL n index : Nat} {ret : Option FieldType} {ws Ts : List Cond} {rm : Room} {own host : String} {As : List Value}
    (S : CallFix p m c cc nL s args Ts own) (hM : zx_C0 l D y ws rm As x) (cw : va_CN R s args own index y host bytes maxL ret ws rm 0 0 n ∧ (Cond.static y).before args s = true ∧ True) (hK : va_K D vwCl tys s) (hN : zx_N s) (hP : va_P D vwCl (w u) H) (hS : va_S A H0 H locs) (hA : ∀ q, H0.size ≤ q → A q) (hn : As.length = n) (hsize : ls.size = nL) (hst : st0 = As.reverse ++ rest) (hro : (rest.map fun v => v.category).sum ≤ 8) (hdg : decode cc pc = .ok (.invokestatic index, 3)) (hf : cells ≤ R.cells ∧ slots ≤ R.slots)
    (kk : ∀ (H1 : Heap) (locs1 : List Loc), va_P D vwCl (w u) H1 → va_S A H0 H1 locs1 → W p l e R s m args below meth c H1 locs1 cells slots Q (F0 m (pc + 3) ls (.int x :: rest))) : W p l e R s m args below meth c H locs cells slots Q (F0 m pc ls st0) :=
  zx_none (va_runSN (As := As) (rest := rest) S (hM H.size) cw ⟨zx_blind, zx_pre (zx_K0 hK) hN zx_P0 (zx_D0 (A := A))⟩ rfl hn hsize hst (lv_room hro) hdg hf) hP hS hA kk
end ZC
/-! the ways out of a method -/
section ZF
variable {p : Program} {l : Launch} {e : Env} {rm : Room} {s : State} {m : MethodId} {args : Array Value} {below : List Frame} {meth : Method} {c : Code} {H : Heap} {locs : List Loc}
variable {cc : ByteArray} {pc : Nat} {ls : Array Slot} {σ : Type} {D : va_G} {tys : List (ClassId × FieldType)} {w : σ → va_W} {A : Nat → Prop}
theorem zx_ret_i {post : Int32 → σ → Prop} (hexec : p.tables.exec = Jvm.exec) (hb : c.code = cc) (hr : meth.sig.returnType = some .int) (hlk : meth.locks = false) (hK : va_K D vwCl tys s) {u' : σ} {v : Int32} (hP : va_P D vwCl (w u') H) (hD : va_D A (w u')) (hS : va_S A s.heap H locs) (hdg : decode cc pc = .ok (.ireturn, 1)) (hq : post v u') : W p l e rm s m args below meth c H locs 0 0 (MQ below (zx_Q zx_ei post (zx_B D tys w A) A) args s 0 0 A) (F0 m pc ls [.int v]) :=
  W.iret (v := v) hexec hb hr (fun t ht hW => ⟨⟨v, u', rfl, hq, by rw [ht]; exact hP, va_K.moved hW.alike hK, hD⟩, hS.F ht⟩) hS.2.2 hdg hlk
theorem zx_ret_z {post : Int32 → σ → Prop} (hexec : p.tables.exec = Jvm.exec) (hb : c.code = cc) (hr : meth.sig.returnType = some .boolean) (hlk : meth.locks = false) (hK : va_K D vwCl tys s) {u' : σ} {v : Int32} (hP : va_P D vwCl (w u') H) (hD : va_D A (w u')) (hS : va_S A s.heap H locs) (hdg : decode cc pc = .ok (.ireturn, 1)) (hn : narrow .boolean (.int v) = .int v) (hq : post v u') : W p l e rm s m args below meth c H locs 0 0 (MQ below (zx_Q zx_ei post (zx_B D tys w A) A) args s 0 0 A) (F0 m pc ls [.int v]) :=
  W.zret (v := v) hexec hb hr hn (fun t ht hW => ⟨⟨v, u', rfl, hq, by rw [ht]; exact hP, va_K.moved hW.alike hK, hD⟩, hS.F ht⟩) hS.2.2 hdg hlk
theorem zx_ret_l {post : Int64 → σ → Prop} (hexec : p.tables.exec = Jvm.exec) (hb : c.code = cc) (hr : meth.sig.returnType = some .long) (hlk : meth.locks = false) (hK : va_K D vwCl tys s) {u' : σ} {v : Int64} (hP : va_P D vwCl (w u') H) (hD : va_D A (w u')) (hS : va_S A s.heap H locs) (hdg : decode cc pc = .ok (.lreturn, 1)) (hq : post v u') : W p l e rm s m args below meth c H locs 0 0 (MQ below (zx_Q zx_el post (zx_B D tys w A) A) args s 0 0 A) (F0 m pc ls [.long v]) :=
  W.lret (v := v) hexec hb hr (fun t ht hW => ⟨⟨v, u', rfl, hq, by rw [ht]; exact hP, va_K.moved hW.alike hK, hD⟩, hS.F ht⟩) hS.2.2 hdg hlk
theorem zx_ret_v {post : Unit → σ → Prop} (hexec : p.tables.exec = Jvm.exec) (hb : c.code = cc) (hr : meth.sig.returnType = none) (hlk : meth.locks = false) (hK : va_K D vwCl tys s) {u' : σ} (hP : va_P D vwCl (w u') H) (hD : va_D A (w u')) (hS : va_S A s.heap H locs) (hdg : decode cc pc = .ok (.return_, 1)) (hq : post () u') : W p l e rm s m args below meth c H locs 0 0 (MQ below (zx_Q zx_ev post (zx_B D tys w A) A) args s 0 0 A) (F0 m pc ls []) :=
  W.vret hexec hb hr (fun t ht hW => ⟨⟨(), u', rfl, hq, by rw [ht]; exact hP, va_K.moved hW.alike hK, hD⟩, hS.F ht⟩) hS.2.2 hdg hlk
theorem zx_ret_a {post : Nat → σ → Prop} {nm : String} (hexec : p.tables.exec = Jvm.exec) (hb : c.code = cc) (hr : meth.sig.returnType = some (.object nm)) (hlk : meth.locks = false) (hK : va_K D vwCl tys s) {u' : σ} {v : Nat} (hP : va_P D vwCl (w u') H) (hD : va_D A (w u')) (hS : va_S A s.heap H locs) (hdg : decode cc pc = .ok (.areturn, 1)) (hq : post v u') : W p l e rm s m args below meth c H locs 0 0 (MQ below (zx_Q zx_ea post (zx_B D tys w A) A) args s 0 0 A) (F0 m pc ls [.ref v]) :=
  W.aret (v := .ref v) hexec hb hr (Or.inl ⟨nm, rfl⟩) (Or.inr ⟨v, rfl⟩) (fun t ht hW => ⟨⟨v, u', rfl, hq, by rw [ht]; exact hP, va_K.moved hW.alike hK, hD⟩, hS.F ht⟩) hS.2.2 hdg hlk
end ZF
/-! how a contract is proved: from the entry on, with the way out as a hypothesis -/
section ZE
variable {l : Launch} {σ : Type} {D : va_G} {tys : List (ClassId × FieldType)} {w : σ → va_W} {y : MethodName} {ws ws' : List Cond} {rm : Room} {av : List Value} {u : σ} {cc : ByteArray} {maxL : Nat}
theorem zx_of_i {post : Int32 → σ → Prop} (hy : plainName y.cls = true) (hw : ws = Cond.code y cc maxL (some .int) :: ws') (hlen : (lg_sl av).length ≤ maxL)
    (body : ∀ (p : Program) (e : Env) (s : State) (m : MethodId) (args : Array Value) (below : List Frame) (meth : Method) (c : Code) (A : Nat → Prop) (Q : State → Prop) (H : Heap), CallFix p m c cc maxL s args ws y.cls → va_K D vwCl tys s → zx_N s → va_P D vwCl (w u) H → va_D A (w u) → va_S A s.heap H [] → (∀ q, s.heap.size ≤ q → A q) →
      (∀ (H : Heap) (locs : List Loc) (u' : σ) (v : Int32) (pc : Nat) (ls : Array Slot), va_P D vwCl (w u') H → va_D A (w u') → va_S A s.heap H locs → decode cc pc = .ok (.ireturn, 1) → post v u' → W p l e rm s m args below meth c H locs 0 0 Q (F0 m pc ls [.int v])) →
      ∀ ls : Array Slot, lv_has ls maxL (lv_args 0 av) → W p l e rm s m args below meth c H [] 0 0 Q (F0 m 0 ls [])) : zx_C zx_ei l D tys w y ws rm av u post := by
  intro sz
  refine Met.ofW (cc := cc) (maxL := maxL) (ret := (some .int)) hy hw ?_
  intro p e s m args below meth c s₁ B hml hv
  obtain ⟨rfl, hsz, hP, hK, hN, hD0⟩ := hv
  subst hsz
  have hown : s.vm.findClass y.cls = some m.cls := findClass_of_methodNamed B.named
  have hts := atoms_spec (ws := ws) B.pre
  have hr := B.returns
  have hlk := B.notSynchronized
  rw [lg_entry_eq]
  exact body p e s m av.toArray below meth c (va_A (w u) s.heap.size) _ s.heap ⟨B.exec, B.bytes, hml, hown, hts⟩ hK hN hP hD0.self va_S.rf (fun q h => Or.inr h) (fun H locs u' v pc ls hP hD hS hdg hq => zx_ret_i B.exec B.bytes hr hlk hK hP hD hS hdg hq) _ (lv_entry av hlen)
theorem zx_of_z {post : Int32 → σ → Prop} (hy : plainName y.cls = true) (hw : ws = Cond.code y cc maxL (some .boolean) :: ws') (hlen : (lg_sl av).length ≤ maxL)
    (body : ∀ (p : Program) (e : Env) (s : State) (m : MethodId) (args : Array Value) (below : List Frame) (meth : Method) (c : Code) (A : Nat → Prop) (Q : State → Prop) (H : Heap), CallFix p m c cc maxL s args ws y.cls → va_K D vwCl tys s → zx_N s → va_P D vwCl (w u) H → va_D A (w u) → va_S A s.heap H [] → (∀ q, s.heap.size ≤ q → A q) →
      (∀ (H : Heap) (locs : List Loc) (u' : σ) (v : Int32) (pc : Nat) (ls : Array Slot), va_P D vwCl (w u') H → va_D A (w u') → va_S A s.heap H locs → decode cc pc = .ok (.ireturn, 1) → narrow .boolean (.int v) = .int v → post v u' → W p l e rm s m args below meth c H locs 0 0 Q (F0 m pc ls [.int v])) →
      ∀ ls : Array Slot, lv_has ls maxL (lv_args 0 av) → W p l e rm s m args below meth c H [] 0 0 Q (F0 m 0 ls [])) : zx_C zx_ei l D tys w y ws rm av u post := by
  intro sz
  refine Met.ofW (cc := cc) (maxL := maxL) (ret := (some .boolean)) hy hw ?_
  intro p e s m args below meth c s₁ B hml hv
  obtain ⟨rfl, hsz, hP, hK, hN, hD0⟩ := hv
  subst hsz
  have hown : s.vm.findClass y.cls = some m.cls := findClass_of_methodNamed B.named
  have hts := atoms_spec (ws := ws) B.pre
  have hr := B.returns
  have hlk := B.notSynchronized
  rw [lg_entry_eq]
  exact body p e s m av.toArray below meth c (va_A (w u) s.heap.size) _ s.heap ⟨B.exec, B.bytes, hml, hown, hts⟩ hK hN hP hD0.self va_S.rf (fun q h => Or.inr h) (fun H locs u' v pc ls hP hD hS hdg hn hq => zx_ret_z B.exec B.bytes hr hlk hK hP hD hS hdg hn hq) _ (lv_entry av hlen)
theorem zx_of_l {post : Int64 → σ → Prop} (hy : plainName y.cls = true) (hw : ws = Cond.code y cc maxL (some .long) :: ws') (hlen : (lg_sl av).length ≤ maxL)
    (body : ∀ (p : Program) (e : Env) (s : State) (m : MethodId) (args : Array Value) (below : List Frame) (meth : Method) (c : Code) (A : Nat → Prop) (Q : State → Prop) (H : Heap), CallFix p m c cc maxL s args ws y.cls → va_K D vwCl tys s → zx_N s → va_P D vwCl (w u) H → va_D A (w u) → va_S A s.heap H [] → (∀ q, s.heap.size ≤ q → A q) →
      (∀ (H : Heap) (locs : List Loc) (u' : σ) (v : Int64) (pc : Nat) (ls : Array Slot), va_P D vwCl (w u') H → va_D A (w u') → va_S A s.heap H locs → decode cc pc = .ok (.lreturn, 1) → post v u' → W p l e rm s m args below meth c H locs 0 0 Q (F0 m pc ls [.long v])) →
      ∀ ls : Array Slot, lv_has ls maxL (lv_args 0 av) → W p l e rm s m args below meth c H [] 0 0 Q (F0 m 0 ls [])) : zx_C zx_el l D tys w y ws rm av u post := by
  intro sz
  refine Met.ofW (cc := cc) (maxL := maxL) (ret := (some .long)) hy hw ?_
  intro p e s m args below meth c s₁ B hml hv
  obtain ⟨rfl, hsz, hP, hK, hN, hD0⟩ := hv
  subst hsz
  have hown : s.vm.findClass y.cls = some m.cls := findClass_of_methodNamed B.named
  have hts := atoms_spec (ws := ws) B.pre
  have hr := B.returns
  have hlk := B.notSynchronized
  rw [lg_entry_eq]
  exact body p e s m av.toArray below meth c (va_A (w u) s.heap.size) _ s.heap ⟨B.exec, B.bytes, hml, hown, hts⟩ hK hN hP hD0.self va_S.rf (fun q h => Or.inr h) (fun H locs u' v pc ls hP hD hS hdg hq => zx_ret_l B.exec B.bytes hr hlk hK hP hD hS hdg hq) _ (lv_entry av hlen)
theorem zx_of_v {post : Unit → σ → Prop} (hy : plainName y.cls = true) (hw : ws = Cond.code y cc maxL none :: ws') (hlen : (lg_sl av).length ≤ maxL)
    (body : ∀ (p : Program) (e : Env) (s : State) (m : MethodId) (args : Array Value) (below : List Frame) (meth : Method) (c : Code) (A : Nat → Prop) (Q : State → Prop) (H : Heap), CallFix p m c cc maxL s args ws y.cls → va_K D vwCl tys s → zx_N s → va_P D vwCl (w u) H → va_D A (w u) → va_S A s.heap H [] → (∀ q, s.heap.size ≤ q → A q) →
      (∀ (H : Heap) (locs : List Loc) (u' : σ) (pc : Nat) (ls : Array Slot), va_P D vwCl (w u') H → va_D A (w u') → va_S A s.heap H locs → decode cc pc = .ok (.return_, 1) → post () u' → W p l e rm s m args below meth c H locs 0 0 Q (F0 m pc ls [])) →
      ∀ ls : Array Slot, lv_has ls maxL (lv_args 0 av) → W p l e rm s m args below meth c H [] 0 0 Q (F0 m 0 ls [])) : zx_C zx_ev l D tys w y ws rm av u post := by
  intro sz
  refine Met.ofW (cc := cc) (maxL := maxL) (ret := none) hy hw ?_
  intro p e s m args below meth c s₁ B hml hv
  obtain ⟨rfl, hsz, hP, hK, hN, hD0⟩ := hv
  subst hsz
  have hown : s.vm.findClass y.cls = some m.cls := findClass_of_methodNamed B.named
  have hts := atoms_spec (ws := ws) B.pre
  have hr := B.returns
  have hlk := B.notSynchronized
  rw [lg_entry_eq]
  exact body p e s m av.toArray below meth c (va_A (w u) s.heap.size) _ s.heap ⟨B.exec, B.bytes, hml, hown, hts⟩ hK hN hP hD0.self va_S.rf (fun q h => Or.inr h) (fun H locs u' pc ls hP hD hS hdg hq => zx_ret_v B.exec B.bytes hr hlk hK hP hD hS hdg hq) _ (lv_entry av hlen)
theorem zx_of_a {post : Nat → σ → Prop} {nm : String} (hy : plainName y.cls = true) (hw : ws = Cond.code y cc maxL (some (.object nm)) :: ws') (hlen : (lg_sl av).length ≤ maxL)
    (body : ∀ (p : Program) (e : Env) (s : State) (m : MethodId) (args : Array Value) (below : List Frame) (meth : Method) (c : Code) (A : Nat → Prop) (Q : State → Prop) (H : Heap), CallFix p m c cc maxL s args ws y.cls → va_K D vwCl tys s → zx_N s → va_P D vwCl (w u) H → va_D A (w u) → va_S A s.heap H [] → (∀ q, s.heap.size ≤ q → A q) →
      (∀ (H : Heap) (locs : List Loc) (u' : σ) (v : Nat) (pc : Nat) (ls : Array Slot), va_P D vwCl (w u') H → va_D A (w u') → va_S A s.heap H locs → decode cc pc = .ok (.areturn, 1) → post v u' → W p l e rm s m args below meth c H locs 0 0 Q (F0 m pc ls [.ref v])) →
      ∀ ls : Array Slot, lv_has ls maxL (lv_args 0 av) → W p l e rm s m args below meth c H [] 0 0 Q (F0 m 0 ls [])) : zx_C zx_ea l D tys w y ws rm av u post := by
  intro sz
  refine Met.ofW (cc := cc) (maxL := maxL) (ret := (some (.object nm))) hy hw ?_
  intro p e s m args below meth c s₁ B hml hv
  obtain ⟨rfl, hsz, hP, hK, hN, hD0⟩ := hv
  subst hsz
  have hown : s.vm.findClass y.cls = some m.cls := findClass_of_methodNamed B.named
  have hts := atoms_spec (ws := ws) B.pre
  have hr := B.returns
  have hlk := B.notSynchronized
  rw [lg_entry_eq]
  exact body p e s m av.toArray below meth c (va_A (w u) s.heap.size) _ s.heap ⟨B.exec, B.bytes, hml, hown, hts⟩ hK hN hP hD0.self va_S.rf (fun q h => Or.inr h) (fun H locs u' v pc ls hP hD hS hdg hq => zx_ret_a B.exec B.bytes hr hlk hK hP hD hS hdg hq) _ (lv_entry av hlen)
end ZE
section ZG
variable {p : Program} {l : Launch} {e : Env} {R : Room} {s : State} {m : MethodId} {args : Array Value} {below : List Frame} {meth : Method} {c : Code} {H : Heap} {locs : List Loc} {cells slots : Nat} {Q : State → Prop}
variable {cc : ByteArray} {pc : Nat} {ls : Array Slot} {rest : List Value}
theorem zx_topi {x y : Int32} (h : x = y) (k : W p l e R s m args below meth c H locs cells slots Q (F0 m pc ls (.int y :: rest))) : W p l e R s m args below meth c H locs cells slots Q (F0 m pc ls (.int x :: rest)) := by rw [h]; exact k
theorem zx_topl {x y : Int64} (h : x = y) (k : W p l e R s m args below meth c H locs cells slots Q (F0 m pc ls (.long y :: rest))) : W p l e R s m args below meth c H locs cells slots Q (F0 m pc ls (.long x :: rest)) := by rw [h]; exact k
theorem zx_inegI (hexec : p.tables.exec = Jvm.exec) (hb : c.code = cc) {a : Int} (hdg : decode cc pc = .ok (.ineg, 1)) (k : W p l e R s m args below meth c H locs cells slots Q (F0 m (pc + 1) ls (.int (zx_i (-a)) :: rest))) : W p l e R s m args below meth c H locs cells slots Q (F0 m pc ls (.int (zx_i a) :: rest)) :=
  lv_ineg hexec hb hdg (by rw [zx_i_neg]; exact k)
theorem zx_i2b (hexec : p.tables.exec = Jvm.exec) (hb : c.code = cc) {a : Nat} (ha : a < 128) (hdg : decode cc pc = .ok (.i2b, 1)) (k : W p l e R s m args below meth c H locs cells slots Q (F0 m (pc + 1) ls (.int (nI a) :: rest))) : W p l e R s m args below meth c H locs cells slots Q (F0 m pc ls (.int (nI a) :: rest)) :=
  lv_i2b hexec hb hdg (zx_narB a ha).2 k
end ZG
theorem zx_inc (a n : Nat) : nI a + Int32.ofInt (n : Int) = nI (a + n) := nI_add a n
theorem zx_dec {a n : Nat} (h : n ≤ a) : nI a + Int32.ofInt (-(n : Int)) = nI (a - n) := by
  rw [← pk_sub h, Int32.sub_eq_add_neg, Int32.ofInt_neg]; rfl
theorem zx_incI (a : Int) (n : Int) : zx_i a + Int32.ofInt n = zx_i (a + n) := zx_i_add a n
theorem zx_tout {a : Nat} {lo hi : Int} (ha : a < 2 ^ 31) (h : (a : Int) < lo ∨ hi < (a : Int)) : (nI a).toInt < lo ∨ hi < (nI a).toInt := by
  rw [nI_toInt ha]; exact h
theorem zx_neT {x : Int32} {k : Nat} (h : ¬ x = nI k) (hk : k < 2 ^ 31) : ¬ x.toInt = (k : Int) := fun q => h (Int32.toInt_inj.mp (by rw [nI_toInt hk]; exact q))
theorem zx_ofV {x : Int32} {n : Nat} (h1 : nI 0 ≤ x) (h2 : x ≤ nI n) (hn : n < 2 ^ 31) : ∃ k : Nat, k ≤ n ∧ x = nI k := by
  rw [Int32.le_iff_toInt_le, nI_toInt (by decide)] at h1
  rw [Int32.le_iff_toInt_le, nI_toInt hn] at h2
  refine ⟨x.toInt.toNat, by omega, ?_⟩
  apply Int32.toInt_inj.mp
  rw [nI_toInt (by omega)]
  omega
end
section
/-! pure words: any, bits, counts, the first, the most -/
def zp_any (f : Nat → Bool) : Nat → Bool
  | 0 => false
  | n + 1 => zp_any f n || f n
def zp_bits (f : Nat → Bool) : Nat → Nat
  | 0 => 0
  | n + 1 => zp_bits f n + cond (f n) (2 ^ n) 0
def zp_cnt (f : Nat → Bool) : Nat → Nat
  | 0 => 0
  | n + 1 => zp_cnt f n + zx_n (f n)
theorem zp_fst_ex (f : Nat → Bool) : ∀ n : Nat, ∃ k, k ≤ n ∧ (∀ j, j < k → f j = false) ∧ (k = n ∨ f k = true)
  | 0 => ⟨0, Nat.le_refl 0, fun j hj => absurd hj (Nat.not_lt_zero j), Or.inl rfl⟩
  | n + 1 => by
    obtain ⟨k, h1, h2, h3⟩ := zp_fst_ex f n
    by_cases q : f k = true
    · exact ⟨k, by omega, h2, Or.inr q⟩
    · have e : k = n := h3.elim id (fun z => absurd z q)
      subst e
      refine ⟨k + 1, Nat.le_refl _, fun j hj => ?_, Or.inl rfl⟩
      by_cases e : j = k
      · rw [e]; simpa using q
      · exact h2 j (by omega)
noncomputable def zp_fst (f : Nat → Bool) (n : Nat) : Nat := Classical.choose (zp_fst_ex f n)
def zp_max (f : Nat → Nat) : Nat → Nat
  | 0 => 0
  | n + 1 => if zp_max f n < f n then f n else zp_max f n
def zp_sum (f : Nat → Nat) : Nat → Nat
  | 0 => 0
  | n + 1 => zp_sum f n + f n
theorem zp_any_iff (f : Nat → Bool) : ∀ n, zp_any f n = true ↔ ∃ k, k < n ∧ f k = true
  | 0 => by simp [zp_any]
  | n + 1 => by
    rw [zp_any, Bool.or_eq_true, zp_any_iff f n]
    constructor
    · rintro (⟨k, h1, h2⟩ | h)
      · exact ⟨k, by omega, h2⟩
      · exact ⟨n, by omega, h⟩
    · rintro ⟨k, h1, h2⟩
      rcases Nat.lt_or_ge k n with h | h
      · exact Or.inl ⟨k, h, h2⟩
      · have : k = n := by omega
        subst this; exact Or.inr h2
theorem zp_any_ff (f : Nat → Bool) (n : Nat) : zp_any f n = false ↔ ∀ k, k < n → f k = false := by
  rw [← Bool.not_eq_true, zp_any_iff]
  constructor
  · intro h k hk
    by_cases q : f k = true
    · exact absurd ⟨k, hk, q⟩ h
    · simpa using q
  · rintro h ⟨k, hk, q⟩
    rw [h k hk] at q; cases q
theorem zp_any_cong {f g : Nat → Bool} : ∀ {n : Nat}, (∀ k, k < n → f k = g k) → zp_any f n = zp_any g n
  | 0, _ => rfl
  | n + 1, h => by rw [zp_any, zp_any, zp_any_cong (fun k hk => h k (by omega)), h n (by omega)]
theorem zp_bits_lt (f : Nat → Bool) : ∀ n, zp_bits f n < 2 ^ n
  | 0 => by simp [zp_bits]
  | n + 1 => by
    have h := zp_bits_lt f n
    rw [zp_bits, Nat.pow_succ]
    cases f n <;> simp <;> omega
theorem zp_bits_tb (f : Nat → Bool) : ∀ n i, (zp_bits f n).testBit i = (decide (i < n) && f i)
  | 0, i => by simp [zp_bits]
  | n + 1, i => by
    have h := zp_bits_lt f n
    have ih := zp_bits_tb f n i
    rw [zp_bits]
    cases hf : f n with
    | false =>
      simp only [cond_false, Nat.add_zero, ih]
      by_cases h1 : i < n
      · simp [h1, show i < n + 1 by omega]
      · by_cases h2 : i = n
        · subst h2; simp [hf]
        · simp [h1, show ¬ i < n + 1 by omega]
    | true =>
      simp only [cond_true]
      have e := Nat.two_pow_add_eq_or_of_lt h 1
      rw [Nat.mul_one] at e
      rw [Nat.add_comm, e, Nat.testBit_or, ih, Nat.testBit_two_pow]
      by_cases h1 : i < n
      · simp [h1, show i < n + 1 by omega, show ¬ n = i by omega]
      · by_cases h2 : i = n
        · subst h2; simp [hf]
        · simp [h1, show ¬ i < n + 1 by omega, show ¬ n = i by omega]
theorem zp_fst_le (f : Nat → Bool) (n : Nat) : zp_fst f n ≤ n := (Classical.choose_spec (zp_fst_ex f n)).1
theorem zp_fst_no (f : Nat → Bool) (n k : Nat) (h : k < zp_fst f n) : f k = false := (Classical.choose_spec (zp_fst_ex f n)).2.1 k h
theorem zp_fst_yes (f : Nat → Bool) (n : Nat) (h : zp_fst f n < n) : f (zp_fst f n) = true := by
  rcases (Classical.choose_spec (zp_fst_ex f n)).2.2 with q | q
  · exact absurd h (by show ¬ zp_fst f n < n; rw [show zp_fst f n = n from q]; exact Nat.lt_irrefl n)
  · exact q
theorem zp_fst_eq {f : Nat → Bool} {n k : Nat} (hk : k ≤ n) (h1 : ∀ j, j < k → f j = false) (h2 : k = n ∨ f k = true) : zp_fst f n = k := by
  have a1 := zp_fst_le f n
  have a2 := zp_fst_no f n
  have a3 := zp_fst_yes f n
  rcases Nat.lt_trichotomy (zp_fst f n) k with q | q | q
  · have := a3 (by omega)
    rw [h1 _ q] at this; cases this
  · exact q
  · rcases h2 with h2 | h2
    · omega
    · have := a2 k q
      rw [h2] at this; cases this
theorem zp_fst_all {f : Nat → Bool} {n : Nat} : zp_fst f n = n ↔ ∀ j, j < n → f j = false := by
  constructor
  · intro h j hj
    exact zp_fst_no f n j (by omega)
  · intro h
    exact zp_fst_eq (Nat.le_refl n) h (Or.inl rfl)
theorem zp_fst_cong {f g : Nat → Bool} {n : Nat} (h : ∀ k, k < n → f k = g k) : zp_fst f n = zp_fst g n := by
  have a1 := zp_fst_le g n
  refine zp_fst_eq a1 (fun j hj => by rw [h j (by omega)]; exact zp_fst_no g n j hj) ?_
  rcases Nat.lt_or_ge (zp_fst g n) n with q | q
  · exact Or.inr (by rw [h _ q]; exact zp_fst_yes g n q)
  · exact Or.inl (by omega)
theorem zp_cnt_cong {f g : Nat → Bool} : ∀ {n : Nat}, (∀ k, k < n → f k = g k) → zp_cnt f n = zp_cnt g n
  | 0, _ => rfl
  | n + 1, h => by rw [zp_cnt, zp_cnt, zp_cnt_cong (fun k hk => h k (by omega)), h n (by omega)]
theorem zp_cnt_le (f : Nat → Bool) : ∀ n, zp_cnt f n ≤ n
  | 0 => Nat.le_refl 0
  | n + 1 => by
    have h := zp_cnt_le f n
    rw [zp_cnt]
    cases f n <;> simp [zx_n] <;> omega
theorem zp_max_cong {f g : Nat → Nat} : ∀ {n : Nat}, (∀ k, k < n → f k = g k) → zp_max f n = zp_max g n
  | 0, _ => rfl
  | n + 1, h => by rw [zp_max, zp_max, zp_max_cong (fun k hk => h k (by omega)), h n (by omega)]
theorem zp_max_le {f : Nat → Nat} {c : Nat} (hf : ∀ k, f k ≤ c) : ∀ n, zp_max f n ≤ c
  | 0 => Nat.zero_le c
  | n + 1 => by
    have h := zp_max_le hf n
    have h2 := hf n
    rw [zp_max]
    split <;> omega
theorem zp_max_ge (f : Nat → Nat) : ∀ {n k : Nat}, k < n → f k ≤ zp_max f n
  | 0, k, h => absurd h (Nat.not_lt_zero k)
  | n + 1, k, h => by
    rw [zp_max]
    rcases Nat.lt_or_ge k n with q | q
    · have := zp_max_ge f q
      split <;> omega
    · have : k = n := by omega
      subst this
      split <;> omega
/-! kinds, delays -/
def zp_dl (c : Nat) : Int := if c = 121 then -2 else if c = 122 then -1 else if c = 97 then 0 else if c = 98 then 1 else if c = 99 then 2 else if c = 100 then 3 else 99
def zp_okl (k c : Nat) : Bool := if k < 9 then decide (zp_dl c ≠ 99) else decide (k = 9) && (decide (48 ≤ c) && decide (c ≤ 51))
def zp_ah (f : Nat) (q : Int) : Int := if f = 0 then q else if f = 1 then q + 1 else if f = 2 then -q else 0
def zp_puts (K o i : Nat) (t : Bool) : Bool := if K = 1 then t else if K = 2 then !t else if K = 3 then decide (i = o) else if K = 4 then !t && !decide (i = o) else false
def zp_pt (n : Nat) (K D O : Nat → Nat) (d i : Nat) (t : Bool) : Bool := zp_any (fun p => decide (D p = d) && zp_puts (K p) (O p) i t) n
def zp_put (n : Nat) (K D O : Nat → Nat) (d w : Nat) : Nat := zp_bits (fun i => zp_pt n K D O d i (w.testBit i)) 7
def zp_sh (m : Nat) (ah : Int) : Nat := (if 0 ≤ ah then m * 2 ^ ah.toNat else m / 2 ^ (-ah).toNat) &&& 127
/-! weeks: f says what must be by a week; the first day that is wrong; whether it agrees -/
noncomputable def zp_fw (f : Nat → Nat) (w : Nat) : Nat := zp_fst (fun i => w.testBit i != (f w).testBit i) 7
noncomputable def zp_ag (f : Nat → Nat) (w : Nat) : Bool := decide (zp_fw f w = 7)
noncomputable def zp_nag (f : Nat → Nat) : Nat := zp_cnt (zp_ag f) 128
def zp_no (n k : Nat) : Int32 := if k = n then -1 else nI k
noncomputable def zp_can (f : Nat → Nat) : Int32 := zp_no 7 (zp_max (zp_fw f) 128)
noncomputable def zp_lst (f : Nat → Nat) : Int32 := zp_no 128 (zp_fst (zp_ag f) 128)
noncomputable def zp_cou (f : Nat → Nat) (i : Nat) : Nat → Nat
  | 0 => 0
  | n + 1 => zp_cou f i n ||| cond (zp_ag f n) (2 ^ (zx_n (n.testBit i))) 0
noncomputable def zp_sur (f : Nat → Nat) (i : Nat) : Int32 := if zp_cou f i 128 = 1 then nI 0 else if zp_cou f i 128 = 2 then nI 1 else -1
noncomputable def zp_eno (f : Nat → Nat) (days : Nat) : Bool := zp_any (zp_ag f) 128 && !zp_any (fun w => zp_ag f w && !decide (w &&& days = days)) 128
def zp_pc (x : Nat) : Nat := zp_cnt (fun k => x.testBit k) 7
def zp_bst (g : Nat → Bool) : Nat → Option Nat
  | 0 => none
  | n + 1 => match zp_bst g n with
    | none => if g n then some n else none
    | some b => if zp_pc n < zp_pc b ∧ g n = true then some n else some b
def zp_o : Option Nat → Int32
  | none => -1
  | some k => nI k
def zp_fd (m : Nat) (FI FO FS : Nat → Nat) (d w : Nat) : Bool := !zp_any (fun k => decide (FI k = d) && !decide (zx_n (w.testBit (FO k)) = FS k)) m
noncomputable def zp_anb (m : Nat) (FI FO FS : Nat → Nat) (d : Nat) (f : Nat → Nat) : Bool := zp_any (fun w => zp_fd m FI FO FS d w && zp_ag f w) 128
/-! the reference's words, over its numbers s, its rows a, its delays z -/
def zm_f (s : Nat → Nat) (a : Nat → Nat → Nat) (d : Nat) (ah : Int) (q : Nat) : Nat → Nat := fun w => zp_sh (zp_put (s 5) (a 6) (a 7) (a 8) d w ||| q) ah
def zm_F (s : Nat → Nat) (a : Nat → Nat → Nat) (z : Nat → Int) (d : Nat) : Nat → Nat := zm_f s a d (zp_ah (s 3) (z d)) (a 4 d)
def zm_I (s : Nat → Nat) (a : Nat → Nat → Nat) (z : Nat → Int) : Prop :=
  (s 0 ≤ 1 ∧ s 1 ≤ 1000 ∧ s 3 ≤ 3 ∧ s 5 ≤ 6 ∧ s 9 ≤ 8 ∧ s 13 ≤ 40 ∧ s 14 ≤ 12) ∧ (s 17 ≤ 1 ∧ s 18 ≤ 1000 ∧ s 19 ≤ 3 ∧ s 20 ≤ 6 ∧ s 21 ≤ 8) ∧
  (∀ p, p < 6 → a 6 p < 5 ∧ a 7 p < 9 ∧ a 8 p < 7) ∧ (∀ k, k < 8 → a 10 k < 9 ∧ a 11 k < 7 ∧ a 12 k < 2) ∧ (∀ d, d < 9 → a 4 d < 128) ∧ (∀ k, k < 12 → a 15 k < 128) ∧ (∀ d, d < 9 → -2 ≤ z d ∧ z d ≤ 3) ∧
  (∀ d, d < 9 → a 22 d < 128) ∧ (∀ p, p < 6 → a 23 p < 9 ∧ a 24 p < 7) ∧ (∀ k, k < 8 → a 25 k < 9 ∧ a 26 k < 7 ∧ a 27 k < 2)
/-! the worlds: the reference's cells, the class's cells -/
def zm_t (cI cB : ClassId) : List (ClassId × FieldType) := [(cI, .int), (cB, .byte)]
def zm_w (cI cB : ClassId) (r : Nat → Nat) (u : (Nat → Nat) × (Nat → Nat → Nat) × (Nat → Int) × Int64) : va_W :=
  [(r 0, .inr (3, [.int (nI (u.1 0)), .int (nI (u.1 1)), .ref (r 2), .int (nI (u.1 3)), .ref (r 4), .int (nI (u.1 5)), .ref (r 6), .ref (r 7), .ref (r 8), .int (nI (u.1 9)), .ref (r 10), .ref (r 11), .ref (r 12), .int (nI (u.1 13)), .int (nI (u.1 14)), .ref (r 15), .long (lN (u.1 16)), .int (nI (u.1 17)), .int (nI (u.1 18)), .int (nI (u.1 19)), .int (nI (u.1 20)), .int (nI (u.1 21)), .ref (r 22), .ref (r 23), .ref (r 24), .ref (r 25), .ref (r 26), .ref (r 27), .long u.2.2.2])),
   (r 2, .inl (cI, 9, .inl (fun j => zx_i (u.2.2.1 j)))), (r 4, .inl (cI, 9, .inl (fun j => nI (u.2.1 4 j)))), (r 6, .inl (cI, 6, .inl (fun j => nI (u.2.1 6 j)))), (r 7, .inl (cI, 6, .inl (fun j => nI (u.2.1 7 j)))), (r 8, .inl (cI, 6, .inl (fun j => nI (u.2.1 8 j)))), (r 10, .inl (cI, 8, .inl (fun j => nI (u.2.1 10 j)))), (r 11, .inl (cI, 8, .inl (fun j => nI (u.2.1 11 j)))), (r 12, .inl (cI, 8, .inl (fun j => nI (u.2.1 12 j)))), (r 15, .inl (cB, 12, .inl (fun j => nI (u.2.1 15 j)))),
   (r 22, .inl (cI, 9, .inl (fun j => nI (u.2.1 22 j)))), (r 23, .inl (cI, 6, .inl (fun j => nI (u.2.1 23 j)))), (r 24, .inl (cI, 6, .inl (fun j => nI (u.2.1 24 j)))), (r 25, .inl (cI, 8, .inl (fun j => nI (u.2.1 25 j)))), (r 26, .inl (cI, 8, .inl (fun j => nI (u.2.1 26 j)))), (r 27, .inl (cI, 8, .inl (fun j => nI (u.2.1 27 j))))]
def zy_w (cI : ClassId) (r : Nat → Nat) (u : (Nat → Nat) × (Nat → Nat → Nat) × (Nat → Int) × Int) : va_W :=
  [(r 1, .inr (2, [.ref (r 0), .int (nI (u.1 1)), .int (nI (u.1 2)), .ref (r 3), .ref (r 10), .int (nI (u.1 5)), .ref (r 20), .int (nI (u.1 7)), .int (nI (u.1 8)), .ref (r 30)])),
   (r 0, .inl (cI, 12, .inl (fun j => nI (u.2.1 0 j)))), (r 3, .inl (cI, 9, .inl (fun j => zx_i (u.2.2.1 j)))),
   (r 10, .inr (1, [.int (nI (u.1 10)), .int (nI (u.1 11)), .int (nI (u.1 12)), .ref (r 13), .ref (r 14), .ref (r 15), .ref (r 16), .ref (r 17), .ref (r 18)])),
   (r 13, .inl (cI, 6, .inl (fun j => nI (u.2.1 13 j)))), (r 14, .inl (cI, 6, .inl (fun j => nI (u.2.1 14 j)))), (r 15, .inl (cI, 6, .inl (fun j => nI (u.2.1 15 j)))), (r 16, .inl (cI, 9, .inl (fun j => nI (u.2.1 16 j)))), (r 17, .inl (cI, 9, .inl (fun j => nI (u.2.1 17 j)))), (r 18, .inl (cI, 9, .inl (fun j => nI (u.2.1 18 j)))),
   (r 20, .inr (1, [.int (nI (u.1 20)), .int (nI (u.1 21)), .int (nI (u.1 22)), .ref (r 23), .ref (r 24), .ref (r 25), .ref (r 26), .ref (r 27), .ref (r 28)])),
   (r 23, .inl (cI, 6, .inl (fun j => nI (u.2.1 23 j)))), (r 24, .inl (cI, 6, .inl (fun j => nI (u.2.1 24 j)))), (r 25, .inl (cI, 6, .inl (fun j => nI (u.2.1 25 j)))), (r 26, .inl (cI, 9, .inl (fun j => nI (u.2.1 26 j)))), (r 27, .inl (cI, 9, .inl (fun j => nI (u.2.1 27 j)))), (r 28, .inl (cI, 9, .inl (fun j => nI (u.2.1 28 j)))),
   (r 30, .inr (0, [.int (zx_i u.2.2.2), .int (nI (u.1 31)), .int (nI (u.1 32)), .int (nI (u.1 33)), .int (nI (u.1 34)), .int (nI (u.1 35)), .int (nI (u.1 36))]))]
end
section
theorem zx_ltle {a b : Int32} (h : a < b) : ¬ b ≤ a := by
  rw [Int32.lt_iff_toInt_lt] at h
  rw [Int32.le_iff_toInt_le]
  omega
theorem zx_nlt {a b : Int32} (h : ¬ a < b) : b ≤ a := by
  rw [Int32.lt_iff_toInt_lt] at h
  rw [Int32.le_iff_toInt_le]
  omega
theorem zx_a1 (x : Nat) : x &&& 1 < 2 ^ 31 := by
  have := Nat.and_le_right (n := x) (m := 1)
  omega
theorem zx_tbn (x k : Nat) : x / 2 ^ k &&& 1 = zx_n (x.testBit k) := by
  rw [Nat.testBit_eq_decide_div_mod_eq, Nat.and_one_is_mod]
  have h : x / 2 ^ k % 2 < 2 := Nat.mod_lt _ (by decide)
  rcases (show x / 2 ^ k % 2 = 0 ∨ x / 2 ^ k % 2 = 1 by omega) with e | e <;> rw [e] <;> rfl
theorem zx_tb1 {x k : Nat} (h : x / 2 ^ k &&& 1 = 1) : x.testBit k = true := by
  rw [zx_tbn] at h
  cases q : x.testBit k
  · rw [q] at h; cases h
  · rfl
theorem zx_tb0 {x k : Nat} (h : x / 2 ^ k &&& 1 ≠ 1) : x.testBit k = false := by
  rw [zx_tbn] at h
  cases q : x.testBit k
  · rfl
  · rw [q] at h; exact absurd rfl h
/-! what a number names -/
def zd_rng (lo hi : Nat) (x : Int32) : Option Nat := if nI lo ≤ x ∧ x ≤ nI hi then some x.toNatClampNeg else none
theorem zd_yes {lo hi : Nat} {x : Int32} (hl : lo ≤ hi) (hh : hi < 2 ^ 31) (h : decide (nI lo ≤ x ∧ x ≤ nI hi) = true) : ∃ k : Nat, x = nI k ∧ lo ≤ k ∧ k ≤ hi ∧ zd_rng lo hi x = some k := by
  have q := of_decide_eq_true h
  have h1 := q.1
  obtain ⟨j, hj, rfl⟩ := zx_ofV (x := x) (n := hi) (by
    rw [Int32.le_iff_toInt_le, nI_toInt (by omega)] at h1
    rw [Int32.le_iff_toInt_le, nI_toInt (by decide)]
    omega) q.2 hh
  rw [nI_leI (by omega) (by omega)] at h1
  exact ⟨j, rfl, h1, hj, by unfold zd_rng; rw [if_pos q, nI_clamp (by omega)]⟩
theorem zd_nos {lo hi : Nat} {x : Int32} (h : decide (nI lo ≤ x ∧ x ≤ nI hi) = false) : zd_rng lo hi x = none := by
  unfold zd_rng; rw [if_neg (of_decide_eq_false h)]
def zd_drw (c : Nat) (x : Int32) : Option Nat := if c = 0 then none else zd_rng 0 8 x
def zd_per (n : Nat) (x : Int32) : Option Nat := if n = 0 then none else zd_rng 0 (n - 1) x
theorem zd_some {o : Option Nat} (h : o.isSome = true) : ∃ k, o = some k := Option.isSome_iff_exists.mp h
theorem zd_none {o : Option Nat} (h : o.isSome = false) : o = none := by cases o <;> simp_all
theorem zd_rng_some {lo hi k : Nat} {x : Int32} (hl : lo ≤ hi) (hh : hi < 2 ^ 31) (h : zd_rng lo hi x = some k) : x = nI k ∧ lo ≤ k ∧ k ≤ hi := by
  by_cases q : decide (nI lo ≤ x ∧ x ≤ nI hi) = true
  · obtain ⟨j, h1, h2, h3, h4⟩ := zd_yes hl hh q
    rw [h] at h4; cases h4
    exact ⟨h1, h2, h3⟩
  · rw [zd_nos (by simpa using q)] at h; cases h
theorem zd_drw_some {c k : Nat} {x : Int32} (h : zd_drw c x = some k) : x = nI k ∧ k ≤ 8 ∧ c ≠ 0 := by
  unfold zd_drw at h
  split at h
  · cases h
  · rename_i q
    obtain ⟨h1, h2, h3⟩ := zd_rng_some (by decide) (by decide) h
    exact ⟨h1, h3, q⟩
theorem zd_per_some {n k : Nat} {x : Int32} (hn : n < 2 ^ 31) (h : zd_per n x = some k) : x = nI k ∧ k < n := by
  unfold zd_per at h
  split at h
  · cases h
  · rename_i q
    obtain ⟨h1, h2, h3⟩ := zd_rng_some (by omega) (by omega) h
    exact ⟨h1, by omega⟩
theorem zd_drw_b {c : Nat} (x : Int32) (hc : c ≠ 0) : (zd_drw c x).isSome = decide (nI 0 ≤ x ∧ x ≤ nI 8) := by
  unfold zd_drw zd_rng
  rw [if_neg hc]
  by_cases q : nI 0 ≤ x ∧ x ≤ nI 8
  · rw [if_pos q, decide_eq_true q]; rfl
  · rw [if_neg q, decide_eq_false q]; rfl
theorem zd_drw_0 (x : Int32) {c : Nat} (hc : c = 0) : (zd_drw c x).isSome = false := by
  unfold zd_drw; rw [if_pos hc]; rfl
theorem zd_per_b {n : Nat} (x : Int32) (hn : n < 2 ^ 31) : (zd_per n x).isSome = decide (nI 0 ≤ x ∧ x ≤ nI n - nI 1) := by
  unfold zd_per zd_rng
  by_cases q0 : n = 0
  · subst q0
    rw [if_pos rfl]
    symm
    apply decide_eq_false
    rintro ⟨h1, h2⟩
    rw [Int32.le_iff_toInt_le, nI_toInt (by decide)] at h1
    rw [Int32.le_iff_toInt_le] at h2
    have : (nI 0 - nI 1).toInt = -1 := by decide
    omega
  · rw [if_neg q0, pk_sub (by omega)]
    by_cases q : nI 0 ≤ x ∧ x ≤ nI (n - 1)
    · rw [if_pos q, decide_eq_true q]; rfl
    · rw [if_neg q, decide_eq_false q]; rfl
theorem zp_dlV : ∀ c, c < 128 → (zp_dl c = 99 ↔ ¬ (97 ≤ c ∧ c ≤ 100 ∨ 121 ≤ c ∧ c ≤ 122)) := by decide +kernel
theorem zx_dig : ∀ c, c < 128 → decide (nI 0 ≤ nI c - nI 48 ∧ nI c - nI 48 ≤ nI 3) = (decide (48 ≤ c) && decide (c ≤ 51)) := by decide +kernel
theorem zx_dl99 : ∀ c, c < 128 → (zx_i (zp_dl c) = nI 99 ↔ zp_dl c = 99) := by decide +kernel

def rmX0_start : Room := { frames := 0, cells := 0, slots := 0, locals := 0 }
theorem hd_X0_start : yX0_start.cls ≠ "java/lang/invoke/MethodHandle" ∧ yX0_start.cls ≠ "java/lang/invoke/VarHandle" ∧ (parseMethodDescriptor yX0_start.desc).map (fun d => d.parameters.length) = some 2 := by decide +kernel
def rmX2_putsIfEmpty : Room := { frames := 0, cells := 0, slots := 0, locals := 0 }
theorem hd_X2_putsIfEmpty : yX2_putsIfEmpty.cls ≠ "java/lang/invoke/MethodHandle" ∧ yX2_putsIfEmpty.cls ≠ "java/lang/invoke/VarHandle" ∧ (parseMethodDescriptor yX2_putsIfEmpty.desc).map (fun d => d.parameters.length) = some 2 := by decide +kernel
def rmX2_putsIfThere : Room := { frames := 0, cells := 0, slots := 0, locals := 0 }
theorem hd_X2_putsIfThere : yX2_putsIfThere.cls ≠ "java/lang/invoke/MethodHandle" ∧ yX2_putsIfThere.cls ≠ "java/lang/invoke/VarHandle" ∧ (parseMethodDescriptor yX2_putsIfThere.desc).map (fun d => d.parameters.length) = some 2 := by decide +kernel
def rmX0_join : Room := { frames := 1, cells := 0, slots := 0, locals := 21 }
theorem hd_X0_join : yX0_join.cls ≠ "java/lang/invoke/MethodHandle" ∧ yX0_join.cls ≠ "java/lang/invoke/VarHandle" ∧ (parseMethodDescriptor yX0_join.desc).map (fun d => d.parameters.length) = some 2 := by decide +kernel
def rmX0_mustBe : Room := { frames := 0, cells := 0, slots := 0, locals := 0 }
theorem hd_X0_mustBe : yX0_mustBe.cls ≠ "java/lang/invoke/MethodHandle" ∧ yX0_mustBe.cls ≠ "java/lang/invoke/VarHandle" ∧ (parseMethodDescriptor yX0_mustBe.desc).map (fun d => d.parameters.length) = some 1 := by decide +kernel
def rmX0_onlyWeek : Room := { frames := 1, cells := 0, slots := 0, locals := 22 }
theorem hd_X0_onlyWeek : yX0_onlyWeek.cls ≠ "java/lang/invoke/MethodHandle" ∧ yX0_onlyWeek.cls ≠ "java/lang/invoke/VarHandle" ∧ (parseMethodDescriptor yX0_onlyWeek.desc).map (fun d => d.parameters.length) = some 0 := by decide +kernel
def rmX0_settle : Room := { frames := 2, cells := 0, slots := 0, locals := 44 }
theorem hd_X0_settle : yX0_settle.cls ≠ "java/lang/invoke/MethodHandle" ∧ yX0_settle.cls ≠ "java/lang/invoke/VarHandle" ∧ (parseMethodDescriptor yX0_settle.desc).map (fun d => d.parameters.length) = some 0 := by decide +kernel
def rmJ6_bitCount_0f7a4 : Room := { frames := 0, cells := 0, slots := 0, locals := 0 }
theorem hd_J6_bitCount_0f7a4 : yJ6_bitCount_0f7a4.cls ≠ "java/lang/invoke/MethodHandle" ∧ yJ6_bitCount_0f7a4.cls ≠ "java/lang/invoke/VarHandle" ∧ (parseMethodDescriptor yJ6_bitCount_0f7a4.desc).map (fun d => d.parameters.length) = some 1 := by decide +kernel
def rmX0_agreeing : Room := { frames := 1, cells := 0, slots := 0, locals := 20 }
theorem hd_X0_agreeing : yX0_agreeing.cls ≠ "java/lang/invoke/MethodHandle" ∧ yX0_agreeing.cls ≠ "java/lang/invoke/VarHandle" ∧ (parseMethodDescriptor yX0_agreeing.desc).map (fun d => d.parameters.length) = some 0 := by decide +kernel
def rmX2_bitOf : Room := { frames := 0, cells := 0, slots := 0, locals := 0 }
theorem hd_X2_bitOf : yX2_bitOf.cls ≠ "java/lang/invoke/MethodHandle" ∧ yX2_bitOf.cls ≠ "java/lang/invoke/VarHandle" ∧ (parseMethodDescriptor yX2_bitOf.desc).map (fun d => d.parameters.length) = some 2 := by decide +kernel
def rmX0_firstStuckDay : Room := { frames := 1, cells := 0, slots := 0, locals := 21 }
theorem hd_X0_firstStuckDay : yX0_firstStuckDay.cls ≠ "java/lang/invoke/MethodHandle" ∧ yX0_firstStuckDay.cls ≠ "java/lang/invoke/VarHandle" ∧ (parseMethodDescriptor yX0_firstStuckDay.desc).map (fun d => d.parameters.length) = some 0 := by decide +kernel
def rmX0_leastWeek : Room := { frames := 0, cells := 0, slots := 0, locals := 0 }
theorem hd_X0_leastWeek : yX0_leastWeek.cls ≠ "java/lang/invoke/MethodHandle" ∧ yX0_leastWeek.cls ≠ "java/lang/invoke/VarHandle" ∧ (parseMethodDescriptor yX0_leastWeek.desc).map (fun d => d.parameters.length) = some 0 := by decide +kernel
def rmX0_sureOn : Room := { frames := 1, cells := 0, slots := 0, locals := 21 }
theorem hd_X0_sureOn : yX0_sureOn.cls ≠ "java/lang/invoke/MethodHandle" ∧ yX0_sureOn.cls ≠ "java/lang/invoke/VarHandle" ∧ (parseMethodDescriptor yX0_sureOn.desc).map (fun d => d.parameters.length) = some 1 := by decide +kernel
def rmX0_isSureOfAll : Room := { frames := 0, cells := 0, slots := 0, locals := 0 }
theorem hd_X0_isSureOfAll : yX0_isSureOfAll.cls ≠ "java/lang/invoke/MethodHandle" ∧ yX0_isSureOfAll.cls ≠ "java/lang/invoke/VarHandle" ∧ (parseMethodDescriptor yX0_isSureOfAll.desc).map (fun d => d.parameters.length) = some 1 := by decide +kernel
def rmX0_allows : Room := { frames := 0, cells := 0, slots := 0, locals := 0 }
theorem hd_X0_allows : yX0_allows.cls ≠ "java/lang/invoke/MethodHandle" ∧ yX0_allows.cls ≠ "java/lang/invoke/VarHandle" ∧ (parseMethodDescriptor yX0_allows.desc).map (fun d => d.parameters.length) = some 2 := by decide +kernel
def rmX1_clearFound : Room := { frames := 0, cells := 0, slots := 0, locals := 0 }
theorem hd_X1_clearFound : yX1_clearFound.cls ≠ "java/lang/invoke/MethodHandle" ∧ yX1_clearFound.cls ≠ "java/lang/invoke/VarHandle" ∧ (parseMethodDescriptor yX1_clearFound.desc).map (fun d => d.parameters.length) = some 0 := by decide +kernel
def rmX1_clear : Room := { frames := 1, cells := 0, slots := 0, locals := 21 }
theorem hd_X1_clear : yX1_clear.cls ≠ "java/lang/invoke/MethodHandle" ∧ yX1_clear.cls ≠ "java/lang/invoke/VarHandle" ∧ (parseMethodDescriptor yX1_clear.desc).map (fun d => d.parameters.length) = some 1 := by decide +kernel
def rmX1_takeFrom : Room := { frames := 0, cells := 0, slots := 0, locals := 0 }
theorem hd_X1_takeFrom : yX1_takeFrom.cls ≠ "java/lang/invoke/MethodHandle" ∧ yX1_takeFrom.cls ≠ "java/lang/invoke/VarHandle" ∧ (parseMethodDescriptor yX1_takeFrom.desc).map (fun d => d.parameters.length) = some 1 := by decide +kernel
def rmX1_peopleOf : Room := { frames := 0, cells := 0, slots := 0, locals := 0 }
theorem hd_X1_peopleOf : yX1_peopleOf.cls ≠ "java/lang/invoke/MethodHandle" ∧ yX1_peopleOf.cls ≠ "java/lang/invoke/VarHandle" ∧ (parseMethodDescriptor yX1_peopleOf.desc).map (fun d => d.parameters.length) = some 1 := by decide +kernel
def rmX1_thingsLaid : Room := { frames := 1, cells := 0, slots := 0, locals := 20 }
theorem hd_X1_thingsLaid : yX1_thingsLaid.cls ≠ "java/lang/invoke/MethodHandle" ∧ yX1_thingsLaid.cls ≠ "java/lang/invoke/VarHandle" ∧ (parseMethodDescriptor yX1_thingsLaid.desc).map (fun d => d.parameters.length) = some 0 := by decide +kernel
def rmX2_letter : Room := { frames := 0, cells := 0, slots := 0, locals := 0 }
theorem hd_X2_letter : yX2_letter.cls ≠ "java/lang/invoke/MethodHandle" ∧ yX2_letter.cls ≠ "java/lang/invoke/VarHandle" ∧ (parseMethodDescriptor yX2_letter.desc).map (fun d => d.parameters.length) = some 1 := by decide +kernel
def rmX2_blank : Room := { frames := 0, cells := 0, slots := 0, locals := 0 }
theorem hd_X2_blank : yX2_blank.cls ≠ "java/lang/invoke/MethodHandle" ∧ yX2_blank.cls ≠ "java/lang/invoke/VarHandle" ∧ (parseMethodDescriptor yX2_blank.desc).map (fun d => d.parameters.length) = some 0 := by decide +kernel
def rmX2_fits : Room := { frames := 0, cells := 0, slots := 0, locals := 0 }
theorem hd_X2_fits : yX2_fits.cls ≠ "java/lang/invoke/MethodHandle" ∧ yX2_fits.cls ≠ "java/lang/invoke/VarHandle" ∧ (parseMethodDescriptor yX2_fits.desc).map (fun d => d.parameters.length) = some 2 := by decide +kernel
def rmX2_fittingLetters : Room := { frames := 1, cells := 0, slots := 0, locals := 21 }
theorem hd_X2_fittingLetters : yX2_fittingLetters.cls ≠ "java/lang/invoke/MethodHandle" ∧ yX2_fittingLetters.cls ≠ "java/lang/invoke/VarHandle" ∧ (parseMethodDescriptor yX2_fittingLetters.desc).map (fun d => d.parameters.length) = some 0 := by decide +kernel
def rmX2_fault : Room := { frames := 2, cells := 0, slots := 0, locals := 42 }
theorem hd_X2_fault : yX2_fault.cls ≠ "java/lang/invoke/MethodHandle" ∧ yX2_fault.cls ≠ "java/lang/invoke/VarHandle" ∧ (parseMethodDescriptor yX2_fault.desc).map (fun d => d.parameters.length) = some 0 := by decide +kernel
def rmX2_delayByLetter : Room := { frames := 0, cells := 0, slots := 0, locals := 0 }
theorem hd_X2_delayByLetter : yX2_delayByLetter.cls ≠ "java/lang/invoke/MethodHandle" ∧ yX2_delayByLetter.cls ≠ "java/lang/invoke/VarHandle" ∧ (parseMethodDescriptor yX2_delayByLetter.desc).map (fun d => d.parameters.length) = some 1 := by decide +kernel
def rmX2_chest : Room := { frames := 2, cells := 0, slots := 0, locals := 43 }
theorem hd_X2_chest : yX2_chest.cls ≠ "java/lang/invoke/MethodHandle" ∧ yX2_chest.cls ≠ "java/lang/invoke/VarHandle" ∧ (parseMethodDescriptor yX2_chest.desc).map (fun d => d.parameters.length) = some 0 := by decide +kernel
def rmX2_face : Room := { frames := 0, cells := 0, slots := 0, locals := 0 }
theorem hd_X2_face : yX2_face.cls ≠ "java/lang/invoke/MethodHandle" ∧ yX2_face.cls ≠ "java/lang/invoke/VarHandle" ∧ (parseMethodDescriptor yX2_face.desc).map (fun d => d.parameters.length) = some 1 := by decide +kernel
def rmX2_isDrawer : Room := { frames := 0, cells := 0, slots := 0, locals := 0 }
theorem hd_X2_isDrawer : yX2_isDrawer.cls ≠ "java/lang/invoke/MethodHandle" ∧ yX2_isDrawer.cls ≠ "java/lang/invoke/VarHandle" ∧ (parseMethodDescriptor yX2_isDrawer.desc).map (fun d => d.parameters.length) = some 1 := by decide +kernel
def rmX2_aheadOf : Room := { frames := 0, cells := 0, slots := 0, locals := 0 }
theorem hd_X2_aheadOf : yX2_aheadOf.cls ≠ "java/lang/invoke/MethodHandle" ∧ yX2_aheadOf.cls ≠ "java/lang/invoke/VarHandle" ∧ (parseMethodDescriptor yX2_aheadOf.desc).map (fun d => d.parameters.length) = some 1 := by decide +kernel
def rmX2_courseWithout : Room := { frames := 2, cells := 0, slots := 0, locals := 43 }
theorem hd_X2_courseWithout : yX2_courseWithout.cls ≠ "java/lang/invoke/MethodHandle" ∧ yX2_courseWithout.cls ≠ "java/lang/invoke/VarHandle" ∧ (parseMethodDescriptor yX2_courseWithout.desc).map (fun d => d.parameters.length) = some 2 := by decide +kernel
def rmX2_courseOf : Room := { frames := 3, cells := 0, slots := 0, locals := 66 }
theorem hd_X2_courseOf : yX2_courseOf.cls ≠ "java/lang/invoke/MethodHandle" ∧ yX2_courseOf.cls ≠ "java/lang/invoke/VarHandle" ∧ (parseMethodDescriptor yX2_courseOf.desc).map (fun d => d.parameters.length) = some 1 := by decide +kernel
def rmX2_drawer : Room := { frames := 4, cells := 0, slots := 0, locals := 88 }
theorem hd_X2_drawer : yX2_drawer.cls ≠ "java/lang/invoke/MethodHandle" ∧ yX2_drawer.cls ≠ "java/lang/invoke/VarHandle" ∧ (parseMethodDescriptor yX2_drawer.desc).map (fun d => d.parameters.length) = some 2 := by decide +kernel
def rmX2_isKind : Room := { frames := 0, cells := 0, slots := 0, locals := 0 }
theorem hd_X2_isKind : yX2_isKind.cls ≠ "java/lang/invoke/MethodHandle" ∧ yX2_isKind.cls ≠ "java/lang/invoke/VarHandle" ∧ (parseMethodDescriptor yX2_isKind.desc).map (fun d => d.parameters.length) = some 1 := by decide +kernel
def rmX2_isDay : Room := { frames := 0, cells := 0, slots := 0, locals := 0 }
theorem hd_X2_isDay : yX2_isDay.cls ≠ "java/lang/invoke/MethodHandle" ∧ yX2_isDay.cls ≠ "java/lang/invoke/VarHandle" ∧ (parseMethodDescriptor yX2_isDay.desc).map (fun d => d.parameters.length) = some 1 := by decide +kernel
def rmX2_person : Room := { frames := 1, cells := 0, slots := 0, locals := 21 }
theorem hd_X2_person : yX2_person.cls ≠ "java/lang/invoke/MethodHandle" ∧ yX2_person.cls ≠ "java/lang/invoke/VarHandle" ∧ (parseMethodDescriptor yX2_person.desc).map (fun d => d.parameters.length) = some 3 := by decide +kernel
def rmX2_isPerson : Room := { frames := 0, cells := 0, slots := 0, locals := 0 }
theorem hd_X2_isPerson : yX2_isPerson.cls ≠ "java/lang/invoke/MethodHandle" ∧ yX2_isPerson.cls ≠ "java/lang/invoke/VarHandle" ∧ (parseMethodDescriptor yX2_isPerson.desc).map (fun d => d.parameters.length) = some 1 := by decide +kernel
def rmX2_about : Room := { frames := 1, cells := 0, slots := 0, locals := 21 }
theorem hd_X2_about : yX2_about.cls ≠ "java/lang/invoke/MethodHandle" ∧ yX2_about.cls ≠ "java/lang/invoke/VarHandle" ∧ (parseMethodDescriptor yX2_about.desc).map (fun d => d.parameters.length) = some 2 := by decide +kernel
def rmX2_isOfKind : Room := { frames := 0, cells := 0, slots := 0, locals := 0 }
theorem hd_X2_isOfKind : yX2_isOfKind.cls ≠ "java/lang/invoke/MethodHandle" ∧ yX2_isOfKind.cls ≠ "java/lang/invoke/VarHandle" ∧ (parseMethodDescriptor yX2_isOfKind.desc).map (fun d => d.parameters.length) = some 2 := by decide +kernel
def rmX2_as : Room := { frames := 1, cells := 0, slots := 0, locals := 21 }
theorem hd_X2_as : yX2_as.cls ≠ "java/lang/invoke/MethodHandle" ∧ yX2_as.cls ≠ "java/lang/invoke/VarHandle" ∧ (parseMethodDescriptor yX2_as.desc).map (fun d => d.parameters.length) = some 2 := by decide +kernel
def rmX2_move : Room := { frames := 1, cells := 0, slots := 0, locals := 21 }
theorem hd_X2_move : yX2_move.cls ≠ "java/lang/invoke/MethodHandle" ∧ yX2_move.cls ≠ "java/lang/invoke/VarHandle" ∧ (parseMethodDescriptor yX2_move.desc).map (fun d => d.parameters.length) = some 2 := by decide +kernel
def rmX2_lay : Room := { frames := 1, cells := 0, slots := 0, locals := 21 }
theorem hd_X2_lay : yX2_lay.cls ≠ "java/lang/invoke/MethodHandle" ∧ yX2_lay.cls ≠ "java/lang/invoke/VarHandle" ∧ (parseMethodDescriptor yX2_lay.desc).map (fun d => d.parameters.length) = some 3 := by decide +kernel
def rmX2_agrees : Room := { frames := 3, cells := 0, slots := 0, locals := 66 }
theorem hd_X2_agrees : yX2_agrees.cls ≠ "java/lang/invoke/MethodHandle" ∧ yX2_agrees.cls ≠ "java/lang/invoke/VarHandle" ∧ (parseMethodDescriptor yX2_agrees.desc).map (fun d => d.parameters.length) = some 2 := by decide +kernel
def rmX2_sure : Room := { frames := 4, cells := 0, slots := 0, locals := 88 }
theorem hd_X2_sure : yX2_sure.cls ≠ "java/lang/invoke/MethodHandle" ∧ yX2_sure.cls ≠ "java/lang/invoke/VarHandle" ∧ (parseMethodDescriptor yX2_sure.desc).map (fun d => d.parameters.length) = some 2 := by decide +kernel
def rmX2_fewestLaid : Room := { frames := 3, cells := 0, slots := 0, locals := 64 }
theorem hd_X2_fewestLaid : yX2_fewestLaid.cls ≠ "java/lang/invoke/MethodHandle" ∧ yX2_fewestLaid.cls ≠ "java/lang/invoke/VarHandle" ∧ (parseMethodDescriptor yX2_fewestLaid.desc).map (fun d => d.parameters.length) = some 2 := by decide +kernel
def rmX2_few : Room := { frames := 4, cells := 0, slots := 0, locals := 87 }
theorem hd_X2_few : yX2_few.cls ≠ "java/lang/invoke/MethodHandle" ∧ yX2_few.cls ≠ "java/lang/invoke/VarHandle" ∧ (parseMethodDescriptor yX2_few.desc).map (fun d => d.parameters.length) = some 3 := by decide +kernel
def rmX2_found : Room := { frames := 1, cells := 0, slots := 0, locals := 21 }
theorem hd_X2_found : yX2_found.cls ≠ "java/lang/invoke/MethodHandle" ∧ yX2_found.cls ≠ "java/lang/invoke/VarHandle" ∧ (parseMethodDescriptor yX2_found.desc).map (fun d => d.parameters.length) = some 3 := by decide +kernel
def rmX2_forget : Room := { frames := 1, cells := 0, slots := 0, locals := 21 }
theorem hd_X2_forget : yX2_forget.cls ≠ "java/lang/invoke/MethodHandle" ∧ yX2_forget.cls ≠ "java/lang/invoke/VarHandle" ∧ (parseMethodDescriptor yX2_forget.desc).map (fun d => d.parameters.length) = some 0 := by decide +kernel
def rmX2_isAsFound : Room := { frames := 1, cells := 0, slots := 0, locals := 22 }
theorem hd_X2_isAsFound : yX2_isAsFound.cls ≠ "java/lang/invoke/MethodHandle" ∧ yX2_isAsFound.cls ≠ "java/lang/invoke/VarHandle" ∧ (parseMethodDescriptor yX2_isAsFound.desc).map (fun d => d.parameters.length) = some 2 := by decide +kernel
def rmX2_delays : Room := { frames := 3, cells := 0, slots := 0, locals := 66 }
theorem hd_X2_delays : yX2_delays.cls ≠ "java/lang/invoke/MethodHandle" ∧ yX2_delays.cls ≠ "java/lang/invoke/VarHandle" ∧ (parseMethodDescriptor yX2_delays.desc).map (fun d => d.parameters.length) = some 1 := by decide +kernel
def rmX2_canBe : Room := { frames := 3, cells := 0, slots := 0, locals := 66 }
theorem hd_X2_canBe : yX2_canBe.cls ≠ "java/lang/invoke/MethodHandle" ∧ yX2_canBe.cls ≠ "java/lang/invoke/VarHandle" ∧ (parseMethodDescriptor yX2_canBe.desc).map (fun d => d.parameters.length) = some 3 := by decide +kernel
def rmX2_who : Room := { frames := 4, cells := 0, slots := 0, locals := 91 }
theorem hd_X2_who : yX2_who.cls ≠ "java/lang/invoke/MethodHandle" ∧ yX2_who.cls ≠ "java/lang/invoke/VarHandle" ∧ (parseMethodDescriptor yX2_who.desc).map (fun d => d.parameters.length) = some 2 := by decide +kernel
def rmX2_nextSeed : Room := { frames := 0, cells := 0, slots := 0, locals := 0 }
theorem hd_X2_nextSeed : yX2_nextSeed.cls ≠ "java/lang/invoke/MethodHandle" ∧ yX2_nextSeed.cls ≠ "java/lang/invoke/VarHandle" ∧ (parseMethodDescriptor yX2_nextSeed.desc).map (fun d => d.parameters.length) = some 1 := by decide +kernel
def rmX2_drawOf : Room := { frames := 0, cells := 0, slots := 0, locals := 0 }
theorem hd_X2_drawOf : yX2_drawOf.cls ≠ "java/lang/invoke/MethodHandle" ∧ yX2_drawOf.cls ≠ "java/lang/invoke/VarHandle" ∧ (parseMethodDescriptor yX2_drawOf.desc).map (fun d => d.parameters.length) = some 2 := by decide +kernel
def rmX2_weeks : Room := { frames := 3, cells := 0, slots := 0, locals := 66 }
theorem hd_X2_weeks : yX2_weeks.cls ≠ "java/lang/invoke/MethodHandle" ∧ yX2_weeks.cls ≠ "java/lang/invoke/VarHandle" ∧ (parseMethodDescriptor yX2_weeks.desc).map (fun d => d.parameters.length) = some 3 := by decide +kernel
def rmX2_image : Room := { frames := 1, cells := 0, slots := 0, locals := 22 }
theorem hd_X2_image : yX2_image.cls ≠ "java/lang/invoke/MethodHandle" ∧ yX2_image.cls ≠ "java/lang/invoke/VarHandle" ∧ (parseMethodDescriptor yX2_image.desc).map (fun d => d.parameters.length) = some 0 := by decide +kernel
def rmX2_restore : Room := { frames := 1, cells := 0, slots := 0, locals := 22 }
theorem hd_X2_restore : yX2_restore.cls ≠ "java/lang/invoke/MethodHandle" ∧ yX2_restore.cls ≠ "java/lang/invoke/VarHandle" ∧ (parseMethodDescriptor yX2_restore.desc).map (fun d => d.parameters.length) = some 0 := by decide +kernel
def rmX2_drawersThatAgree : Room := { frames := 4, cells := 0, slots := 0, locals := 88 }
theorem hd_X2_drawersThatAgree : yX2_drawersThatAgree.cls ≠ "java/lang/invoke/MethodHandle" ∧ yX2_drawersThatAgree.cls ≠ "java/lang/invoke/VarHandle" ∧ (parseMethodDescriptor yX2_drawersThatAgree.desc).map (fun d => d.parameters.length) = some 0 := by decide +kernel
def rmX2_count : Room := { frames := 5, cells := 0, slots := 0, locals := 110 }
theorem hd_X2_count : yX2_count.cls ≠ "java/lang/invoke/MethodHandle" ∧ yX2_count.cls ≠ "java/lang/invoke/VarHandle" ∧ (parseMethodDescriptor yX2_count.desc).map (fun d => d.parameters.length) = some 1 := by decide +kernel
def rmX2_digestOfDrawer : Room := { frames := 5, cells := 0, slots := 0, locals := 110 }
theorem hd_X2_digestOfDrawer : yX2_digestOfDrawer.cls ≠ "java/lang/invoke/MethodHandle" ∧ yX2_digestOfDrawer.cls ≠ "java/lang/invoke/VarHandle" ∧ (parseMethodDescriptor yX2_digestOfDrawer.desc).map (fun d => d.parameters.length) = some 2 := by decide +kernel
def rmX2_digestOfPerson : Room := { frames := 5, cells := 0, slots := 0, locals := 117 }
theorem hd_X2_digestOfPerson : yX2_digestOfPerson.cls ≠ "java/lang/invoke/MethodHandle" ∧ yX2_digestOfPerson.cls ≠ "java/lang/invoke/VarHandle" ∧ (parseMethodDescriptor yX2_digestOfPerson.desc).map (fun d => d.parameters.length) = some 2 := by decide +kernel
def rmX2_digest : Room := { frames := 6, cells := 0, slots := 0, locals := 143 }
theorem hd_X2_digest : yX2_digest.cls ≠ "java/lang/invoke/MethodHandle" ∧ yX2_digest.cls ≠ "java/lang/invoke/VarHandle" ∧ (parseMethodDescriptor yX2_digest.desc).map (fun d => d.parameters.length) = some 0 := by decide +kernel
def rmX3_within : Room := { frames := 0, cells := 0, slots := 0, locals := 0 }
theorem hd_X3_within : yX3_within.cls ≠ "java/lang/invoke/MethodHandle" ∧ yX3_within.cls ≠ "java/lang/invoke/VarHandle" ∧ (parseMethodDescriptor yX3_within.desc).map (fun d => d.parameters.length) = some 3 := by decide +kernel
def rmX3_has : Room := { frames := 0, cells := 0, slots := 0, locals := 0 }
theorem hd_X3_has : yX3_has.cls ≠ "java/lang/invoke/MethodHandle" ∧ yX3_has.cls ≠ "java/lang/invoke/VarHandle" ∧ (parseMethodDescriptor yX3_has.desc).map (fun d => d.parameters.length) = some 2 := by decide +kernel
def rmX3_size : Room := { frames := 0, cells := 0, slots := 0, locals := 0 }
theorem hd_X3_size : yX3_size.cls ≠ "java/lang/invoke/MethodHandle" ∧ yX3_size.cls ≠ "java/lang/invoke/VarHandle" ∧ (parseMethodDescriptor yX3_size.desc).map (fun d => d.parameters.length) = some 1 := by decide +kernel
def rmX3_letter : Room := { frames := 1, cells := 0, slots := 0, locals := 22 }
theorem hd_X3_letter : yX3_letter.cls ≠ "java/lang/invoke/MethodHandle" ∧ yX3_letter.cls ≠ "java/lang/invoke/VarHandle" ∧ (parseMethodDescriptor yX3_letter.desc).map (fun d => d.parameters.length) = some 1 := by decide +kernel
def rmX3_blank : Room := { frames := 0, cells := 0, slots := 0, locals := 0 }
theorem hd_X3_blank : yX3_blank.cls ≠ "java/lang/invoke/MethodHandle" ∧ yX3_blank.cls ≠ "java/lang/invoke/VarHandle" ∧ (parseMethodDescriptor yX3_blank.desc).map (fun d => d.parameters.length) = some 0 := by decide +kernel
def rmX3_delayBy : Room := { frames := 0, cells := 0, slots := 0, locals := 0 }
theorem hd_X3_delayBy : yX3_delayBy.cls ≠ "java/lang/invoke/MethodHandle" ∧ yX3_delayBy.cls ≠ "java/lang/invoke/VarHandle" ∧ (parseMethodDescriptor yX3_delayBy.desc).map (fun d => d.parameters.length) = some 1 := by decide +kernel
def rmX3_faultNow : Room := { frames := 1, cells := 0, slots := 0, locals := 22 }
theorem hd_X3_faultNow : yX3_faultNow.cls ≠ "java/lang/invoke/MethodHandle" ∧ yX3_faultNow.cls ≠ "java/lang/invoke/VarHandle" ∧ (parseMethodDescriptor yX3_faultNow.desc).map (fun d => d.parameters.length) = some 0 := by decide +kernel
def rmX3_fault : Room := { frames := 2, cells := 0, slots := 0, locals := 43 }
theorem hd_X3_fault : yX3_fault.cls ≠ "java/lang/invoke/MethodHandle" ∧ yX3_fault.cls ≠ "java/lang/invoke/VarHandle" ∧ (parseMethodDescriptor yX3_fault.desc).map (fun d => d.parameters.length) = some 0 := by decide +kernel
def rmX3_chest : Room := { frames := 2, cells := 0, slots := 0, locals := 43 }
theorem hd_X3_chest : yX3_chest.cls ≠ "java/lang/invoke/MethodHandle" ∧ yX3_chest.cls ≠ "java/lang/invoke/VarHandle" ∧ (parseMethodDescriptor yX3_chest.desc).map (fun d => d.parameters.length) = some 0 := by decide +kernel
def rmX3_face : Room := { frames := 1, cells := 0, slots := 0, locals := 22 }
theorem hd_X3_face : yX3_face.cls ≠ "java/lang/invoke/MethodHandle" ∧ yX3_face.cls ≠ "java/lang/invoke/VarHandle" ∧ (parseMethodDescriptor yX3_face.desc).map (fun d => d.parameters.length) = some 1 := by decide +kernel
def rmX3_isDrawer : Room := { frames := 1, cells := 0, slots := 0, locals := 22 }
theorem hd_X3_isDrawer : yX3_isDrawer.cls ≠ "java/lang/invoke/MethodHandle" ∧ yX3_isDrawer.cls ≠ "java/lang/invoke/VarHandle" ∧ (parseMethodDescriptor yX3_isDrawer.desc).map (fun d => d.parameters.length) = some 1 := by decide +kernel
def rmX3_isDay : Room := { frames := 1, cells := 0, slots := 0, locals := 22 }
theorem hd_X3_isDay : yX3_isDay.cls ≠ "java/lang/invoke/MethodHandle" ∧ yX3_isDay.cls ≠ "java/lang/invoke/VarHandle" ∧ (parseMethodDescriptor yX3_isDay.desc).map (fun d => d.parameters.length) = some 1 := by decide +kernel
def rmX3_aheadOf : Room := { frames := 0, cells := 0, slots := 0, locals := 0 }
theorem hd_X3_aheadOf : yX3_aheadOf.cls ≠ "java/lang/invoke/MethodHandle" ∧ yX3_aheadOf.cls ≠ "java/lang/invoke/VarHandle" ∧ (parseMethodDescriptor yX3_aheadOf.desc).map (fun d => d.parameters.length) = some 1 := by decide +kernel
def rmX3_puts : Room := { frames := 0, cells := 0, slots := 0, locals := 0 }
theorem hd_X3_puts : yX3_puts.cls ≠ "java/lang/invoke/MethodHandle" ∧ yX3_puts.cls ≠ "java/lang/invoke/VarHandle" ∧ (parseMethodDescriptor yX3_puts.desc).map (fun d => d.parameters.length) = some 4 := by decide +kernel
def rmX3_putBy : Room := { frames := 1, cells := 0, slots := 0, locals := 23 }
theorem hd_X3_putBy : yX3_putBy.cls ≠ "java/lang/invoke/MethodHandle" ∧ yX3_putBy.cls ≠ "java/lang/invoke/VarHandle" ∧ (parseMethodDescriptor yX3_putBy.desc).map (fun d => d.parameters.length) = some 2 := by decide +kernel
def rmX3_firstWrong : Room := { frames := 2, cells := 0, slots := 0, locals := 48 }
theorem hd_X3_firstWrong : yX3_firstWrong.cls ≠ "java/lang/invoke/MethodHandle" ∧ yX3_firstWrong.cls ≠ "java/lang/invoke/VarHandle" ∧ (parseMethodDescriptor yX3_firstWrong.desc).map (fun d => d.parameters.length) = some 4 := by decide +kernel
def rmX3_isSo : Room := { frames := 3, cells := 0, slots := 0, locals := 75 }
theorem hd_X3_isSo : yX3_isSo.cls ≠ "java/lang/invoke/MethodHandle" ∧ yX3_isSo.cls ≠ "java/lang/invoke/VarHandle" ∧ (parseMethodDescriptor yX3_isSo.desc).map (fun d => d.parameters.length) = some 2 := by decide +kernel
def rmX3_agreeing : Room := { frames := 4, cells := 0, slots := 0, locals := 97 }
theorem hd_X3_agreeing : yX3_agreeing.cls ≠ "java/lang/invoke/MethodHandle" ∧ yX3_agreeing.cls ≠ "java/lang/invoke/VarHandle" ∧ (parseMethodDescriptor yX3_agreeing.desc).map (fun d => d.parameters.length) = some 1 := by decide +kernel
def rmX3_cannotOf : Room := { frames := 3, cells := 0, slots := 0, locals := 75 }
theorem hd_X3_cannotOf : yX3_cannotOf.cls ≠ "java/lang/invoke/MethodHandle" ∧ yX3_cannotOf.cls ≠ "java/lang/invoke/VarHandle" ∧ (parseMethodDescriptor yX3_cannotOf.desc).map (fun d => d.parameters.length) = some 1 := by decide +kernel
def rmX3_leastOf : Room := { frames := 4, cells := 0, slots := 0, locals := 97 }
theorem hd_X3_leastOf : yX3_leastOf.cls ≠ "java/lang/invoke/MethodHandle" ∧ yX3_leastOf.cls ≠ "java/lang/invoke/VarHandle" ∧ (parseMethodDescriptor yX3_leastOf.desc).map (fun d => d.parameters.length) = some 1 := by decide +kernel
def rmX3_peopleOf : Room := { frames := 0, cells := 0, slots := 0, locals := 0 }
theorem hd_X3_peopleOf : yX3_peopleOf.cls ≠ "java/lang/invoke/MethodHandle" ∧ yX3_peopleOf.cls ≠ "java/lang/invoke/VarHandle" ∧ (parseMethodDescriptor yX3_peopleOf.desc).map (fun d => d.parameters.length) = some 1 := by decide +kernel
def rmX3_drawerNow : Room := { frames := 5, cells := 0, slots := 0, locals := 120 }
theorem hd_X3_drawerNow : yX3_drawerNow.cls ≠ "java/lang/invoke/MethodHandle" ∧ yX3_drawerNow.cls ≠ "java/lang/invoke/VarHandle" ∧ (parseMethodDescriptor yX3_drawerNow.desc).map (fun d => d.parameters.length) = some 2 := by decide +kernel
def rmX3_drawer : Room := { frames := 6, cells := 0, slots := 0, locals := 142 }
theorem hd_X3_drawer : yX3_drawer.cls ≠ "java/lang/invoke/MethodHandle" ∧ yX3_drawer.cls ≠ "java/lang/invoke/VarHandle" ∧ (parseMethodDescriptor yX3_drawer.desc).map (fun d => d.parameters.length) = some 2 := by decide +kernel
def rmX3_isPerson : Room := { frames := 1, cells := 0, slots := 0, locals := 22 }
theorem hd_X3_isPerson : yX3_isPerson.cls ≠ "java/lang/invoke/MethodHandle" ∧ yX3_isPerson.cls ≠ "java/lang/invoke/VarHandle" ∧ (parseMethodDescriptor yX3_isPerson.desc).map (fun d => d.parameters.length) = some 1 := by decide +kernel
def rmX3_person : Room := { frames := 2, cells := 0, slots := 0, locals := 43 }
theorem hd_X3_person : yX3_person.cls ≠ "java/lang/invoke/MethodHandle" ∧ yX3_person.cls ≠ "java/lang/invoke/VarHandle" ∧ (parseMethodDescriptor yX3_person.desc).map (fun d => d.parameters.length) = some 3 := by decide +kernel
def rmX3_personNow : Room := { frames := 1, cells := 0, slots := 0, locals := 23 }
theorem hd_X3_personNow : yX3_personNow.cls ≠ "java/lang/invoke/MethodHandle" ∧ yX3_personNow.cls ≠ "java/lang/invoke/VarHandle" ∧ (parseMethodDescriptor yX3_personNow.desc).map (fun d => d.parameters.length) = some 2 := by decide +kernel
def rmX3_about : Room := { frames := 2, cells := 0, slots := 0, locals := 45 }
theorem hd_X3_about : yX3_about.cls ≠ "java/lang/invoke/MethodHandle" ∧ yX3_about.cls ≠ "java/lang/invoke/VarHandle" ∧ (parseMethodDescriptor yX3_about.desc).map (fun d => d.parameters.length) = some 2 := by decide +kernel
def rmX3_as : Room := { frames := 2, cells := 0, slots := 0, locals := 43 }
theorem hd_X3_as : yX3_as.cls ≠ "java/lang/invoke/MethodHandle" ∧ yX3_as.cls ≠ "java/lang/invoke/VarHandle" ∧ (parseMethodDescriptor yX3_as.desc).map (fun d => d.parameters.length) = some 2 := by decide +kernel
def rmX3_move : Room := { frames := 2, cells := 0, slots := 0, locals := 43 }
theorem hd_X3_move : yX3_move.cls ≠ "java/lang/invoke/MethodHandle" ∧ yX3_move.cls ≠ "java/lang/invoke/VarHandle" ∧ (parseMethodDescriptor yX3_move.desc).map (fun d => d.parameters.length) = some 2 := by decide +kernel
def rmX3_lay : Room := { frames := 2, cells := 0, slots := 0, locals := 43 }
theorem hd_X3_lay : yX3_lay.cls ≠ "java/lang/invoke/MethodHandle" ∧ yX3_lay.cls ≠ "java/lang/invoke/VarHandle" ∧ (parseMethodDescriptor yX3_lay.desc).map (fun d => d.parameters.length) = some 3 := by decide +kernel
def rmX3_agrees : Room := { frames := 4, cells := 0, slots := 0, locals := 97 }
theorem hd_X3_agrees : yX3_agrees.cls ≠ "java/lang/invoke/MethodHandle" ∧ yX3_agrees.cls ≠ "java/lang/invoke/VarHandle" ∧ (parseMethodDescriptor yX3_agrees.desc).map (fun d => d.parameters.length) = some 2 := by decide +kernel
def rmX3_sureNow : Room := { frames := 4, cells := 0, slots := 0, locals := 97 }
theorem hd_X3_sureNow : yX3_sureNow.cls ≠ "java/lang/invoke/MethodHandle" ∧ yX3_sureNow.cls ≠ "java/lang/invoke/VarHandle" ∧ (parseMethodDescriptor yX3_sureNow.desc).map (fun d => d.parameters.length) = some 2 := by decide +kernel
def rmX3_sure : Room := { frames := 5, cells := 0, slots := 0, locals := 121 }
theorem hd_X3_sure : yX3_sure.cls ≠ "java/lang/invoke/MethodHandle" ∧ yX3_sure.cls ≠ "java/lang/invoke/VarHandle" ∧ (parseMethodDescriptor yX3_sure.desc).map (fun d => d.parameters.length) = some 2 := by decide +kernel
def rmX3_isEnough : Room := { frames := 3, cells := 0, slots := 0, locals := 75 }
theorem hd_X3_isEnough : yX3_isEnough.cls ≠ "java/lang/invoke/MethodHandle" ∧ yX3_isEnough.cls ≠ "java/lang/invoke/VarHandle" ∧ (parseMethodDescriptor yX3_isEnough.desc).map (fun d => d.parameters.length) = some 3 := by decide +kernel
def rmX3_fewNow : Room := { frames := 4, cells := 0, slots := 0, locals := 101 }
theorem hd_X3_fewNow : yX3_fewNow.cls ≠ "java/lang/invoke/MethodHandle" ∧ yX3_fewNow.cls ≠ "java/lang/invoke/VarHandle" ∧ (parseMethodDescriptor yX3_fewNow.desc).map (fun d => d.parameters.length) = some 3 := by decide +kernel
def rmX3_few : Room := { frames := 5, cells := 0, slots := 0, locals := 127 }
theorem hd_X3_few : yX3_few.cls ≠ "java/lang/invoke/MethodHandle" ∧ yX3_few.cls ≠ "java/lang/invoke/VarHandle" ∧ (parseMethodDescriptor yX3_few.desc).map (fun d => d.parameters.length) = some 3 := by decide +kernel
def rmX3_found : Room := { frames := 2, cells := 0, slots := 0, locals := 43 }
theorem hd_X3_found : yX3_found.cls ≠ "java/lang/invoke/MethodHandle" ∧ yX3_found.cls ≠ "java/lang/invoke/VarHandle" ∧ (parseMethodDescriptor yX3_found.desc).map (fun d => d.parameters.length) = some 3 := by decide +kernel
def rmX3_forget : Room := { frames := 0, cells := 0, slots := 0, locals := 0 }
theorem hd_X3_forget : yX3_forget.cls ≠ "java/lang/invoke/MethodHandle" ∧ yX3_forget.cls ≠ "java/lang/invoke/VarHandle" ∧ (parseMethodDescriptor yX3_forget.desc).map (fun d => d.parameters.length) = some 0 := by decide +kernel
def rmX3_isFound : Room := { frames := 0, cells := 0, slots := 0, locals := 0 }
theorem hd_X3_isFound : yX3_isFound.cls ≠ "java/lang/invoke/MethodHandle" ∧ yX3_isFound.cls ≠ "java/lang/invoke/VarHandle" ∧ (parseMethodDescriptor yX3_isFound.desc).map (fun d => d.parameters.length) = some 2 := by decide +kernel
def rmX3_anyBy : Room := { frames := 3, cells := 0, slots := 0, locals := 75 }
theorem hd_X3_anyBy : yX3_anyBy.cls ≠ "java/lang/invoke/MethodHandle" ∧ yX3_anyBy.cls ≠ "java/lang/invoke/VarHandle" ∧ (parseMethodDescriptor yX3_anyBy.desc).map (fun d => d.parameters.length) = some 2 := by decide +kernel
def rmX3_delaysOf : Room := { frames := 4, cells := 0, slots := 0, locals := 99 }
theorem hd_X3_delaysOf : yX3_delaysOf.cls ≠ "java/lang/invoke/MethodHandle" ∧ yX3_delaysOf.cls ≠ "java/lang/invoke/VarHandle" ∧ (parseMethodDescriptor yX3_delaysOf.desc).map (fun d => d.parameters.length) = some 1 := by decide +kernel
def rmX3_delays : Room := { frames := 5, cells := 0, slots := 0, locals := 122 }
theorem hd_X3_delays : yX3_delays.cls ≠ "java/lang/invoke/MethodHandle" ∧ yX3_delays.cls ≠ "java/lang/invoke/VarHandle" ∧ (parseMethodDescriptor yX3_delays.desc).map (fun d => d.parameters.length) = some 1 := by decide +kernel
def rmX3_whoNow : Room := { frames := 4, cells := 0, slots := 0, locals := 99 }
theorem hd_X3_whoNow : yX3_whoNow.cls ≠ "java/lang/invoke/MethodHandle" ∧ yX3_whoNow.cls ≠ "java/lang/invoke/VarHandle" ∧ (parseMethodDescriptor yX3_whoNow.desc).map (fun d => d.parameters.length) = some 2 := by decide +kernel
def rmX3_who : Room := { frames := 5, cells := 0, slots := 0, locals := 127 }
theorem hd_X3_who : yX3_who.cls ≠ "java/lang/invoke/MethodHandle" ∧ yX3_who.cls ≠ "java/lang/invoke/VarHandle" ∧ (parseMethodDescriptor yX3_who.desc).map (fun d => d.parameters.length) = some 2 := by decide +kernel
def rmX3_draw : Room := { frames := 0, cells := 0, slots := 0, locals := 0 }
theorem hd_X3_draw : yX3_draw.cls ≠ "java/lang/invoke/MethodHandle" ∧ yX3_draw.cls ≠ "java/lang/invoke/VarHandle" ∧ (parseMethodDescriptor yX3_draw.desc).map (fun d => d.parameters.length) = some 1 := by decide +kernel
def rmX3_anyLaid : Room := { frames := 3, cells := 0, slots := 0, locals := 75 }
theorem hd_X3_anyLaid : yX3_anyLaid.cls ≠ "java/lang/invoke/MethodHandle" ∧ yX3_anyLaid.cls ≠ "java/lang/invoke/VarHandle" ∧ (parseMethodDescriptor yX3_anyLaid.desc).map (fun d => d.parameters.length) = some 2 := by decide +kernel
def rmX3_weeksNow : Room := { frames := 4, cells := 0, slots := 0, locals := 99 }
theorem hd_X3_weeksNow : yX3_weeksNow.cls ≠ "java/lang/invoke/MethodHandle" ∧ yX3_weeksNow.cls ≠ "java/lang/invoke/VarHandle" ∧ (parseMethodDescriptor yX3_weeksNow.desc).map (fun d => d.parameters.length) = some 3 := by decide +kernel
def rmX3_weeks : Room := { frames := 5, cells := 0, slots := 0, locals := 126 }
theorem hd_X3_weeks : yX3_weeks.cls ≠ "java/lang/invoke/MethodHandle" ∧ yX3_weeks.cls ≠ "java/lang/invoke/VarHandle" ∧ (parseMethodDescriptor yX3_weeks.desc).map (fun d => d.parameters.length) = some 3 := by decide +kernel
def rmX3_image : Room := { frames := 0, cells := 0, slots := 0, locals := 0 }
theorem hd_X3_image : yX3_image.cls ≠ "java/lang/invoke/MethodHandle" ∧ yX3_image.cls ≠ "java/lang/invoke/VarHandle" ∧ (parseMethodDescriptor yX3_image.desc).map (fun d => d.parameters.length) = some 0 := by decide +kernel
def rmX3_restore : Room := { frames := 0, cells := 0, slots := 0, locals := 0 }
theorem hd_X3_restore : yX3_restore.cls ≠ "java/lang/invoke/MethodHandle" ∧ yX3_restore.cls ≠ "java/lang/invoke/VarHandle" ∧ (parseMethodDescriptor yX3_restore.desc).map (fun d => d.parameters.length) = some 0 := by decide +kernel
def rmX3_agreeingDrawers : Room := { frames := 4, cells := 0, slots := 0, locals := 99 }
theorem hd_X3_agreeingDrawers : yX3_agreeingDrawers.cls ≠ "java/lang/invoke/MethodHandle" ∧ yX3_agreeingDrawers.cls ≠ "java/lang/invoke/VarHandle" ∧ (parseMethodDescriptor yX3_agreeingDrawers.desc).map (fun d => d.parameters.length) = some 0 := by decide +kernel
def rmX3_laidAll : Room := { frames := 1, cells := 0, slots := 0, locals := 22 }
theorem hd_X3_laidAll : yX3_laidAll.cls ≠ "java/lang/invoke/MethodHandle" ∧ yX3_laidAll.cls ≠ "java/lang/invoke/VarHandle" ∧ (parseMethodDescriptor yX3_laidAll.desc).map (fun d => d.parameters.length) = some 0 := by decide +kernel
def rmX3_howMany : Room := { frames := 5, cells := 0, slots := 0, locals := 121 }
theorem hd_X3_howMany : yX3_howMany.cls ≠ "java/lang/invoke/MethodHandle" ∧ yX3_howMany.cls ≠ "java/lang/invoke/VarHandle" ∧ (parseMethodDescriptor yX3_howMany.desc).map (fun d => d.parameters.length) = some 1 := by decide +kernel
def rmX3_count : Room := { frames := 6, cells := 0, slots := 0, locals := 142 }
theorem hd_X3_count : yX3_count.cls ≠ "java/lang/invoke/MethodHandle" ∧ yX3_count.cls ≠ "java/lang/invoke/VarHandle" ∧ (parseMethodDescriptor yX3_count.desc).map (fun d => d.parameters.length) = some 1 := by decide +kernel
def rmX3_mix : Room := { frames := 0, cells := 0, slots := 0, locals := 0 }
theorem hd_X3_mix : yX3_mix.cls ≠ "java/lang/invoke/MethodHandle" ∧ yX3_mix.cls ≠ "java/lang/invoke/VarHandle" ∧ (parseMethodDescriptor yX3_mix.desc).map (fun d => d.parameters.length) = some 1 := by decide +kernel
def rmX3_mixDrawer : Room := { frames := 6, cells := 0, slots := 0, locals := 142 }
theorem hd_X3_mixDrawer : yX3_mixDrawer.cls ≠ "java/lang/invoke/MethodHandle" ∧ yX3_mixDrawer.cls ≠ "java/lang/invoke/VarHandle" ∧ (parseMethodDescriptor yX3_mixDrawer.desc).map (fun d => d.parameters.length) = some 1 := by decide +kernel
def rmX3_digest : Room := { frames := 7, cells := 0, slots := 0, locals := 164 }
theorem hd_X3_digest : yX3_digest.cls ≠ "java/lang/invoke/MethodHandle" ∧ yX3_digest.cls ≠ "java/lang/invoke/VarHandle" ∧ (parseMethodDescriptor yX3_digest.desc).map (fun d => d.parameters.length) = some 0 := by decide +kernel
end
section
/-! refused (with which answer) or done (with what) -/
def zd_out {α : Type} (o : Int32 ⊕ α) (P : Int32 → Prop) (Q : α → Prop) : Prop := match o with
  | .inl e => P e
  | .inr k => Q k
theorem zd_inl {α : Type} {o : Int32 ⊕ α} {e : Int32} {P : Int32 → Prop} {Q : α → Prop} (h : o = .inl e) (p : P e) : zd_out o P Q := by rw [h]; exact p
theorem zd_inr {α : Type} {o : Int32 ⊕ α} {k : α} {P : Int32 → Prop} {Q : α → Prop} (h : o = .inr k) (p : Q k) : zd_out o P Q := by rw [h]; exact p
def zd_letter (n : Nat) (x : Int32) : Int32 ⊕ Nat := match zd_rng 32 126 x with
  | none => .inl (-102)
  | some k => if n = 12 then .inl (-104) else .inr k
def zd_face (c : Nat) (x : Int32) : Int32 ⊕ Nat := match zd_rng 0 3 x with
  | none => .inl (-102)
  | some k => if c = 0 then .inl (-103) else .inr k
/-! the page -/
noncomputable def zp_flt (n : Nat) (pg : Nat → Nat) : Nat := zp_fst (fun k => !zp_okl k (pg k)) n
theorem zp_flt_le (n : Nat) (pg : Nat → Nat) : zp_flt n pg ≤ n := zp_fst_le _ n
theorem zp_flt_eq {n k : Nat} {pg : Nat → Nat} (hk : k ≤ n) (hno : ∀ j, j < k → zp_okl j (pg j) = true) (h : k = n ∨ zp_okl k (pg k) = false) : nI k = nI (zp_flt n pg) :=
  congrArg nI (zp_fst_eq hk (fun j hj => by simp [hno j hj]) (h.elim Or.inl (fun q => Or.inr (by simp [q])))).symm
theorem zp_flt_ok {n : Nat} {pg : Nat → Nat} (h : zp_flt n pg = n) : ∀ j, j < n → zp_okl j (pg j) = true := fun j hj => by
  have := zp_fst_all.mp h j hj
  simpa using this
theorem zp_okl_lo {k c : Nat} (hk : k < 9) (hc : c < 128) (h : ¬ zx_i (zp_dl c) = nI 99) : zp_okl k c = true := by
  unfold zp_okl; rw [if_pos hk]; exact decide_eq_true (fun q => h ((zx_dl99 c hc).mpr q))
theorem zp_okl_lo0 {k c : Nat} (hk : k < 9) (hc : c < 128) (h : zx_i (zp_dl c) = nI 99) : zp_okl k c = false := by
  unfold zp_okl; rw [if_pos hk]; exact decide_eq_false (fun q => q ((zx_dl99 c hc).mp h))
theorem zp_okl_9 {k c : Nat} {b : Bool} (hk : k = 9) (h : (decide (48 ≤ c) && decide (c ≤ 51)) = b) : zp_okl k c = b := by
  subst hk; unfold zp_okl; rw [if_neg (by decide)]; simpa using h
theorem zp_okl_hi {k c : Nat} (h1 : 9 ≤ k) (h : k ≠ 9) : zp_okl k c = false := by
  unfold zp_okl; rw [if_neg (by omega), decide_eq_false h]; rfl
theorem zp_okl9 {c : Nat} (h : zp_okl 9 c = true) : 48 ≤ c ∧ c ≤ 51 := by
  unfold zp_okl at h; rw [if_neg (by decide)] at h
  simpa using h
theorem zp_dlR : ∀ c, c < 128 → zp_dl c ≠ 99 → -2 ≤ zp_dl c ∧ zp_dl c ≤ 3 := by decide +kernel
theorem zx_dl0 : ∀ c, c < 128 → (zx_i (zp_dl c) = 0 ↔ zp_dl c = 0) := by decide +kernel
noncomputable def zd_chest (n : Nat) (pg : Nat → Nat) : Int32 ⊕ Unit := if n = 10 ∧ zp_flt n pg = 10 then .inr () else .inl (-103)
theorem zd_chestF {n : Nat} {pg : Nat → Nat} (h : n ≠ 10 ∨ zp_flt n pg ≠ 10) : zd_chest n pg = .inl (-103) := by
  unfold zd_chest; rw [if_neg]
  rintro ⟨h1, h2⟩
  rcases h with h | h
  · exact h h1
  · exact h h2
theorem zd_chestT {n : Nat} {pg : Nat → Nat} (h : n = 10) (h2 : zp_flt n pg = 10) : zd_chest n pg = .inr () := by
  unfold zd_chest; rw [if_pos ⟨h, h2⟩]
theorem zp_upN {α : Type} {y : Nat → α} {g : Nat → α} {d : Nat} {v : α} (hv : v = g d) (h : ∀ j, j < d → y j = g j) : ∀ j, j < d + 1 → zx_up y d v j = g j := by
  intro j hj
  rw [zx_up_if]
  by_cases q : j = d
  · rw [if_pos q, q]; exact hv
  · rw [if_neg q]; exact h j (by omega)
theorem zp_cntT {f : Nat → Bool} {n : Nat} (h : f n = true) : nI (zp_cnt f n + 1) = nI (zp_cnt f (n + 1)) := by rw [zp_cnt, h]; rfl
theorem zp_cntF {f : Nat → Bool} {n : Nat} (h : f n = false) : nI (zp_cnt f n + 0) = nI (zp_cnt f (n + 1)) := by rw [zp_cnt, h]; rfl
/-! what the people put -/
theorem zp_pt_end {j i : Nat} {P e q : Bool} (hj : j = 7) : ((decide (i < 7) && P) || (decide (i < j) && (e && q))) = (decide (i < 7) && (P || (e && q))) := by
  subst hj; cases decide (i < 7) <;> simp
theorem zp_pt_no {D d j i : Nat} {P q : Bool} (h : D ≠ d) : ((decide (i < 7) && P) || (decide (i < j) && (decide (D = d) && q))) = (decide (i < 7) && (P || (decide (D = d) && q))) := by
  simp [h]
theorem zp_putT {b j D d : Nat} {P q : Nat → Bool} (g2 : ∀ i, b.testBit i = ((decide (i < 7) && P i) || (decide (i < j) && (decide (D = d) && q i)))) (hj : j < 7) (he : D = d) (hq : q j = true) : ∀ i, (b ||| 2 ^ j).testBit i = ((decide (i < 7) && P i) || (decide (i < j + 1) && (decide (D = d) && q i))) := by
  intro i
  rw [Nat.testBit_or, Nat.testBit_two_pow, g2 i]
  by_cases h : j = i
  · subst h; simp [he, hq]
  · have e1 : (i < j + 1) ↔ (i < j) := by omega
    simp [h, e1]
theorem zp_putF {b j D d : Nat} {P q : Nat → Bool} (g2 : ∀ i, b.testBit i = ((decide (i < 7) && P i) || (decide (i < j) && (decide (D = d) && q i)))) (hq : q j = false) : ∀ i, (b ||| 0).testBit i = ((decide (i < 7) && P i) || (decide (i < j + 1) && (decide (D = d) && q i))) := by
  intro i
  rw [Nat.or_zero, g2 i]
  by_cases h : j = i
  · subst h; simp [hq]
  · have e1 : (i < j + 1) ↔ (i < j) := by omega
    simp [e1]
theorem zp_put_eq {k n b d w : Nat} {K D O : Nat → Nat} (hk : k = n) (h : ∀ i, b.testBit i = (decide (i < 7) && zp_pt k K D O d i (w.testBit i))) : b = zp_put n K D O d w := by
  subst hk
  apply Nat.eq_of_testBit_eq
  intro i
  rw [h i, zp_put, zp_bits_tb]
theorem zp_put_lt (n : Nat) (K D O : Nat → Nat) (d w : Nat) : zp_put n K D O d w < 128 := zp_bits_lt _ 7
/-! weeks, by the reference -/
theorem zx_a127 (x : Nat) : x &&& 127 < 2147483648 := by
  have := Nat.and_le_right (n := x) (m := 127)
  omega
theorem zx_m4 {m k : Nat} (hm : m < 128) (hk : k ≤ 4) : m * 2 ^ k < 2 ^ 32 := by
  have h1 : 2 ^ k ≤ 2 ^ 4 := Nat.pow_le_pow_right (by decide) hk
  have h2 : m * 2 ^ k ≤ 127 * 2 ^ 4 := Nat.mul_le_mul (by omega) h1
  omega
theorem zx_negp {k : Nat} (h0 : 0 < k) (hk : k < 2 ^ 30) : -(nI k) < 0 := by
  rw [Int32.lt_iff_toInt_lt, ← zx_i_n, zx_i_neg, zx_i_toInt (by omega) (by omega)]
  show -(k : Int) < 0
  omega
theorem zp_sh_p {m k : Nat} : zp_sh m (k : Int) = m * 2 ^ k &&& 127 := by
  unfold zp_sh
  rw [if_pos (by omega), Int.toNat_natCast]
theorem zp_sh_n {m k : Nat} (h0 : 0 < k) : zp_sh m (-(k : Int)) = m / 2 ^ k &&& 127 := by
  unfold zp_sh
  rw [if_neg (by omega), Int.neg_neg, Int.toNat_natCast]
theorem zp_sh_lt (m : Nat) (ah : Int) : zp_sh m ah < 128 := by
  have := Nat.and_le_right (n := (if 0 ≤ ah then m * 2 ^ ah.toNat else m / 2 ^ (-ah).toNat)) (m := 127)
  unfold zp_sh
  omega
theorem zp_fw_eq {f : Nat → Nat} {w mb j : Nat} (hM : f w = mb) (hj : j ≤ 7) (gj : ∀ i, i < j → w.testBit i = mb.testBit i) (h : j = 7 ∨ w.testBit j ≠ mb.testBit j) : nI j = nI (zp_fw f w) := by
  refine congrArg nI (zp_fst_eq hj (fun i hi => ?_) (h.elim Or.inl (fun q => Or.inr ?_))).symm
  · rw [hM, gj i hi]; simp
  · rw [hM]; simpa using q
theorem zp_fw_lt (f : Nat → Nat) (w : Nat) : zp_fw f w < 2 ^ 31 := by
  have : zp_fw f w ≤ 7 := zp_fst_le _ 7
  omega
theorem zp_mxf_lt (f : Nat → Nat) (n : Nat) : zp_max (zp_fw f) n < 2 ^ 31 := by
  have : zp_max (zp_fw f) n ≤ 7 := zp_max_le (fun k => zp_fst_le _ 7) n
  omega
theorem zp_ah_rng {f : Nat} {q : Int} (hf : f ≤ 3) (hq : -2 ≤ q ∧ q ≤ 3) : -3 ≤ zp_ah f q ∧ zp_ah f q ≤ 4 := by
  unfold zp_ah
  split
  · omega
  · split
    · omega
    · split <;> omega
theorem zp_lst_k {f : Nat → Nat} {k : Nat} (hk : k ≤ 128) (gk : ∀ j, j < k → zp_ag f j = false) (h : k = 128 ∨ zp_ag f k = true) (hn : k ≠ 128) : nI k = zp_lst f := by
  unfold zp_lst zp_no
  rw [zp_fst_eq hk gk h, if_neg hn]
theorem zp_lst_n {f : Nat → Nat} {k : Nat} (hk : k ≤ 128) (gk : ∀ j, j < k → zp_ag f j = false) (h : k = 128 ∨ zp_ag f k = true) (hn : k = 128) : (-1 : Int32) = zp_lst f := by
  unfold zp_lst zp_no
  rw [zp_fst_eq hk gk h, if_pos hn]
theorem zp_bits_or (f : Nat → Bool) (n : Nat) : zp_bits f (n + 1) = zp_bits f n ||| cond (f n) (2 ^ n) 0 := by
  have h := zp_bits_lt f n
  rw [zp_bits]
  cases f n with
  | false => simp
  | true =>
    have e := Nat.two_pow_add_eq_or_of_lt h 1
    rw [Nat.mul_one] at e
    rw [cond_true, Nat.add_comm, e, Nat.or_comm]
theorem zp_bitsT {f : Nat → Bool} {n : Nat} (h : f n = true) : nI (zp_bits f n ||| 2 ^ n) = nI (zp_bits f (n + 1)) := by rw [zp_bits_or, h]; rfl
theorem zp_bitsF {f : Nat → Bool} {n : Nat} (h : f n = false) : nI (zp_bits f n ||| 0) = nI (zp_bits f (n + 1)) := by rw [zp_bits_or, h]; rfl
/-- what drawer() tells of a drawer -/
noncomputable def zm_dn (s : Nat → Nat) (a : Nat → Nat → Nat) (z : Nat → Int) (d q : Nat) : Int32 :=
  if q = 0 then zx_i (z d) + nI 10 else if q = 1 then zx_i (zp_ah (s 3) (z d)) + nI 10 else if q = 2 then nI (zp_bits (fun p9 => decide (a 7 p9 = d)) (s 5)) else if q = 3 then nI (a 4 d) else if q = 4 then nI (zp_nag (zm_F s a z d)) else if q = 5 then zp_can (zm_F s a z d) else zp_lst (zm_F s a z d)
def zs_dq (n : Nat) (o : Option Nat) (y : Int32) (F : Nat → Nat → Int32) : Int32 := match o with
  | none => -101
  | some d => match zd_rng 0 n y with
    | none => -102
    | some q => F d q
theorem zs_dqo {n d : Nat} {y : Int32} {F : Nat → Nat → Int32} (h : zd_rng 0 n y = none) : zs_dq n (some d) y F = -102 := by unfold zs_dq; simp only [h]
theorem zs_dqi {n d q : Nat} {y : Int32} {F : Nat → Nat → Int32} (h : zd_rng 0 n y = some q) : zs_dq n (some d) y F = F d q := by unfold zs_dq; simp only [h]
section ZDN
variable {s : Nat → Nat} {a : Nat → Nat → Nat} {z : Nat → Int} {d : Nat}
theorem zm_dn0 : zm_dn s a z d 0 = zx_i (z d) + nI 10 := by unfold zm_dn; rw [if_pos rfl]
theorem zm_dn1 : zm_dn s a z d 1 = zx_i (zp_ah (s 3) (z d)) + nI 10 := by unfold zm_dn; rw [if_neg (by decide), if_pos rfl]
theorem zm_dn2 : zm_dn s a z d 2 = nI (zp_bits (fun p9 => decide (a 7 p9 = d)) (s 5)) := by unfold zm_dn; rw [if_neg (by decide), if_neg (by decide), if_pos rfl]
theorem zm_dn3 : zm_dn s a z d 3 = nI (a 4 d) := by unfold zm_dn; rw [if_neg (by decide), if_neg (by decide), if_neg (by decide), if_pos rfl]
theorem zm_dn4 : zm_dn s a z d 4 = nI (zp_nag (zm_F s a z d)) := by unfold zm_dn; rw [if_neg (by decide), if_neg (by decide), if_neg (by decide), if_neg (by decide), if_pos rfl]
theorem zm_dn5 : zm_dn s a z d 5 = zp_can (zm_F s a z d) := by unfold zm_dn; rw [if_neg (by decide), if_neg (by decide), if_neg (by decide), if_neg (by decide), if_neg (by decide), if_pos rfl]
theorem zm_dn6 : zm_dn s a z d 6 = zp_lst (zm_F s a z d) := by unfold zm_dn; rw [if_neg (by decide), if_neg (by decide), if_neg (by decide), if_neg (by decide), if_neg (by decide), if_neg (by decide)]
end ZDN
end
section
/-! people, by their numbers -/
def zd_person (c n : Nat) (x y t : Int32) : Int32 ⊕ (Nat × Nat × Nat) := match zd_rng 0 4 x with
  | none => .inl (-102)
  | some k => match zd_drw c y with
    | none => .inl (-101)
    | some d => match zd_rng 0 6 t with
      | none => .inl (-101)
      | some o => if n = 6 then .inl (-104) else .inr (k, d, o)
def zp_ab (K D O q : Nat) : Int32 := if q = 0 then nI K else if q = 1 then nI D else if q = 2 then nI O else if q < 20 then nI (zx_n (zp_puts K O (q % 10) false)) else nI (zx_n (zp_puts K O (q % 10) true))
theorem zp_ab_11 {K D O q : Nat} (h2 : 2 < q) (h : 20 ≤ q) (hp : zp_puts K O (q % 10) true = true) : zp_ab K D O q = nI 1 := by
  unfold zp_ab; rw [if_neg (by omega), if_neg (by omega), if_neg (by omega), if_neg (by omega), hp]; rfl
theorem zp_ab_10 {K D O q : Nat} (h2 : 2 < q) (h : 20 ≤ q) (hp : zp_puts K O (q % 10) true = false) : zp_ab K D O q = nI 0 := by
  unfold zp_ab; rw [if_neg (by omega), if_neg (by omega), if_neg (by omega), if_neg (by omega), hp]; rfl
theorem zp_ab_1 {K D O q : Nat} (h2 : 2 < q) (h : q < 20) (hp : zp_puts K O (q % 10) false = true) : zp_ab K D O q = nI 1 := by
  unfold zp_ab; rw [if_neg (by omega), if_neg (by omega), if_neg (by omega), if_pos h, hp]; rfl
theorem zp_ab_0 {K D O q : Nat} (h2 : 2 < q) (h : q < 20) (hp : zp_puts K O (q % 10) false = false) : zp_ab K D O q = nI 0 := by
  unfold zp_ab; rw [if_neg (by omega), if_neg (by omega), if_neg (by omega), if_pos h, hp]; rfl
def zd_abo (y : Int32) : Option Nat := match zd_rng 0 2 y with
  | some q => some q
  | none => match zd_rng 10 16 y with
    | some q => some q
    | none => zd_rng 20 26 y
theorem zd_rng_ne {lo hi lo2 hi2 q : Nat} {y : Int32} (hl : lo ≤ hi) (hh : hi < 2 ^ 31) (hl2 : lo2 ≤ hi2) (hh2 : hi2 < 2 ^ 31) (h : zd_rng lo hi y = some q) (hd : hi < lo2 ∨ hi2 < lo) : zd_rng lo2 hi2 y = none := by
  cases h2 : zd_rng lo2 hi2 y with
  | none => rfl
  | some k =>
    obtain ⟨e1, a1, a2⟩ := zd_rng_some hl hh h
    obtain ⟨e2, b1, b2⟩ := zd_rng_some hl2 hh2 h2
    have : q = k := (nI_eq (by omega) (by omega)).mp (e1.symm.trans e2)
    omega
theorem zd_abq {y : Int32} {q : Nat} (h : zd_rng 0 2 y = some q ∨ zd_rng 10 16 y = some q ∨ zd_rng 20 26 y = some q) : zd_abo y = some q := by
  unfold zd_abo
  rcases h with h | h | h
  · simp only [h]
  · simp only [zd_rng_ne (by decide) (by decide) (by decide) (by decide) h (show 16 < 0 ∨ 2 < 10 from Or.inr (by decide)), h]
  · simp only [zd_rng_ne (by decide) (by decide) (by decide) (by decide) h (show 26 < 0 ∨ 2 < 20 from Or.inr (by decide)), zd_rng_ne (by decide) (by decide) (by decide) (by decide) h (show 26 < 10 ∨ 16 < 20 from Or.inr (by decide)), h]
theorem zd_abn {y : Int32} (h1 : zd_rng 0 2 y = none) (h2 : zd_rng 10 16 y = none) (h3 : zd_rng 20 26 y = none) : zd_abo y = none := by
  unfold zd_abo; simp only [h1, h2, h3]
def zs_ab (o : Option Nat) (y : Int32) (F : Nat → Nat → Int32) : Int32 := match o with
  | none => -101
  | some p9 => match zd_abo y with
    | none => -102
    | some q => F p9 q
theorem zs_abn {p9 : Nat} {y : Int32} {F : Nat → Nat → Int32} (h : zd_abo y = none) : zs_ab (some p9) y F = -102 := by unfold zs_ab; simp only [h]
theorem zs_abi {p9 q : Nat} {y : Int32} {F : Nat → Nat → Int32} (h : zd_abo y = some q) : zs_ab (some p9) y F = F p9 q := by unfold zs_ab; simp only [h]
def zs_as (o : Option Nat) (y : Int32) (K : Nat → Nat) : Int32 := match o with
  | none => -101
  | some p9 => match zd_rng 0 4 y with
    | none => -102
    | some q => if q = 0 ∨ K p9 = q ∨ (q = 2 ∧ K p9 = 4) then nI p9 else -1
theorem zs_aso {p9 : Nat} {y : Int32} {K : Nat → Nat} (h : zd_rng 0 4 y = none) : zs_as (some p9) y K = -102 := by unfold zs_as; simp only [h]
theorem zs_asT {p9 q : Nat} {y : Int32} {K : Nat → Nat} (h : zd_rng 0 4 y = some q) (h2 : q = 0 ∨ K p9 = q ∨ (q = 2 ∧ K p9 = 4)) : zs_as (some p9) y K = nI p9 := by unfold zs_as; simp only [h]; exact if_pos h2
theorem zs_asF {p9 q : Nat} {y : Int32} {K : Nat → Nat} (h : zd_rng 0 4 y = some q) (h0 : q ≠ 0) (h1 : K p9 ≠ q) (h2 : q ≠ 2 ∨ K p9 ≠ 4) : zs_as (some p9) y K = -1 := by
  unfold zs_as; simp only [h]
  refine if_neg ?_
  rintro (h3 | h3 | ⟨h3, h4⟩)
  · exact h0 h3
  · exact h1 h3
  · rcases h2 with h2 | h2
    · exact h2 h3
    · exact h2 h4
def zd_move (o1 o2 : Option Nat) : Int32 ⊕ (Nat × Nat) := match o1 with
  | none => .inl (-101)
  | some x => match o2 with
    | none => .inl (-101)
    | some y => .inr (x, y)
def zp_lay (x o : Nat) (b : Bool) : Nat := cond b (x ||| 2 ^ o) (x &&& (127 ^^^ 2 ^ o))
theorem zp_layF0 : ∀ x, x < 128 → ∀ o, o < 7 → nI x &&& (nI (2 ^ o) ^^^ (-1)) = nI (zp_lay x o false) := by decide +kernel
theorem zp_layF {x o : Nat} (hx : x < 128) (ho : o < 7) : nI x &&& (nI (2 ^ o) ^^^ (-1)) = nI (zp_lay x o false) := zp_layF0 x hx o ho
def zs_su (o1 o2 : Option Nat) (F : Nat → Nat → Int32) : Int32 := match o1 with
  | none => -101
  | some x => match o2 with
    | none => -101
    | some y => F x y
theorem zx_a1s (x : Nat) : x &&& 1 < 31 := by
  have := Nat.and_le_right (n := x) (m := 1)
  omega
theorem zp_cou_lt4 (f : Nat → Nat) (i : Nat) : ∀ n, zp_cou f i n < 4
  | 0 => Nat.zero_lt_succ 3
  | n + 1 => by
    have h := zp_cou_lt4 f i n
    rw [zp_cou]
    refine Nat.or_lt_two_pow (n := 2) h ?_
    cases zp_ag f n with
    | false => exact Nat.zero_lt_succ 3
    | true =>
      cases n.testBit i with
      | false => exact Nat.le_of_ble_eq_true rfl
      | true => exact Nat.le_of_ble_eq_true rfl
theorem zp_cou_lt (f : Nat → Nat) (i n : Nat) : zp_cou f i n < 2 ^ 31 := by
  have := zp_cou_lt4 f i n
  omega
theorem zp_couF {f : Nat → Nat} {o i : Nat} (h : zp_ag f i = false) : nI (zp_cou f o i ||| 0) = nI (zp_cou f o (i + 1)) := by rw [zp_cou, h]; rfl
theorem zp_couT {f : Nat → Nat} {o i : Nat} (h : zp_ag f i = true) : nI (zp_cou f o i ||| 2 ^ (i / 2 ^ o &&& 1)) = nI (zp_cou f o (i + 1)) := by rw [zp_cou, h, zx_tbn]; rfl
theorem zx_andlt {x y : Nat} (h : x < 2 ^ 31) : x &&& y < 2 ^ 31 := by
  have := Nat.and_le_left (n := x) (m := y)
  omega
theorem zp_any_f1 {f : Nat → Bool} {i : Nat} (h : f i = false) : zp_any f (i + 1) = zp_any f i := by rw [zp_any, h, Bool.or_false]
theorem zp_any_t1 {f : Nat → Bool} {i : Nat} (h : f i = true) : zp_any f (i + 1) = true := by rw [zp_any, h, Bool.or_true]
section ZEN
variable {f : Nat → Nat} {t i : Nat}
theorem zp_en_a (h : zp_ag f i = false) : zx_b (!zp_any (fun w9 => zp_ag f w9 && !decide (w9 &&& t = t)) i) = zx_b (!zp_any (fun w9 => zp_ag f w9 && !decide (w9 &&& t = t)) (i + 1)) := by
  rw [zp_any_f1 (by simp [h])]
theorem zp_en_b (h : (!zp_any (fun w9 => zp_ag f w9 && !decide (w9 &&& t = t)) i) = false) : (!zp_any (fun w9 => zp_ag f w9 && !decide (w9 &&& t = t)) (i + 1)) = false := by
  have h2 : zp_any (fun w9 => zp_ag f w9 && !decide (w9 &&& t = t)) i = true := by simpa using h
  rw [zp_any, h2]; rfl
theorem zp_en_c (h : zp_ag f i = true) (h2 : i &&& t ≠ t) : (!zp_any (fun w9 => zp_ag f w9 && !decide (w9 &&& t = t)) (i + 1)) = false := by
  rw [zp_any_t1 (by simp [h, h2])]; rfl
theorem zp_en_d (h : (!zp_any (fun w9 => zp_ag f w9 && !decide (w9 &&& t = t)) i) = true) (h2 : i &&& t = t) : (!zp_any (fun w9 => zp_ag f w9 && !decide (w9 &&& t = t)) (i + 1)) = true := by
  rw [zp_any_f1 (by simp [h2])]; exact h
theorem zp_eno_a (hi : i = 128) (h : zp_any (zp_ag f) i = false) : zp_eno f t = false := by subst hi; unfold zp_eno; rw [h]; rfl
theorem zp_eno_b (hi : i = 128) (h : (!zp_any (fun w9 => zp_ag f w9 && !decide (w9 &&& t = t)) i) = false) : zp_eno f t = false := by subst hi; unfold zp_eno; rw [h, Bool.and_false]
theorem zp_eno_c (hi : i = 128) (h1 : zp_any (zp_ag f) i = true) (h : (!zp_any (fun w9 => zp_ag f w9 && !decide (w9 &&& t = t)) i) = true) : zp_eno f t = true := by subst hi; unfold zp_eno; rw [h1, h]; rfl
end ZEN
end
section
set_option maxHeartbeats 4000000 in
set_option maxRecDepth 100000 in
theorem c_X3_within (l : Launch) (D : va_G) (x0 x1 x2 : Int32)  : zx_C0 l D yX3_within wsX3_within rmX3_within [.int x0, .int x1, .int x2] (zx_b (decide (x1 ≤ x0 ∧ x0 ≤ x2))) := by
  refine zx_of_z (cc := cX3_within) (maxL := 3) (by decide) rfl (Nat.le_of_ble_eq_true rfl) ?_
  intro p e st m args below meth c A Q H cf hK hN hP hD hS hA hret ls hl
  obtain ⟨hx, hb, hml, hown, hts⟩ := id cf
  have hl : lv_has ls 3 [(0, .int x0), (1, .int x1), (2, .int x2)] := hl
  refine lv_iload_n hx hb dX3_within_0 rfl (lv_at hl 0 rfl) ?_
  refine lv_iload_n hx hb dX3_within_1 rfl (lv_at hl 1 rfl) ?_
  refine lv_icmp_lt (tgt := 14) hx hb dX3_within_2 (by decide) (fun c_2 => ?_) (fun c_2 => ?_)
  · refine lv_iconst (v := nI 0) hx hb dX3_within_14 (by decide) ?_
    exact hret _ _ _ _ _ _ hP hD hS dX3_within_15 zx_nar0 (zx_b_f (decide_eq_false (fun q => zx_ltle c_2 q.1)))
  · refine lv_iload_n hx hb dX3_within_5 rfl (lv_at hl 0 rfl) ?_
    refine lv_iload_n hx hb dX3_within_6 rfl (lv_at hl 2 rfl) ?_
    refine lv_icmp_gt (tgt := 14) hx hb dX3_within_7 (by decide) (fun c_7 => ?_) (fun c_7 => ?_)
    · refine lv_iconst (v := nI 0) hx hb dX3_within_14 (by decide) ?_
      exact hret _ _ _ _ _ _ hP hD hS dX3_within_15 zx_nar0 (zx_b_f (decide_eq_false (fun q => zx_ltle c_7 q.2)))
    · refine lv_iconst (v := nI 1) hx hb dX3_within_10 (by decide) ?_
      refine lv_goto (tgt := 15) hx hb dX3_within_11 (by decide) ?_
      exact hret _ _ _ _ _ _ hP hD hS dX3_within_15 zx_nar1 (zx_b_t (decide_eq_true ⟨zx_nlt c_2, zx_nlt c_7⟩))
set_option maxHeartbeats 4000000 in
set_option maxRecDepth 100000 in
theorem c_X3_has (l : Launch) (D : va_G) (x k : Nat) (hx0 : x < 2147483648) (hk : k < 31) : zx_C0 l D yX3_has wsX3_has rmX3_has [.int (nI x), .int (nI k)] (zx_b (x.testBit k)) := by
  refine zx_of_z (cc := cX3_has) (maxL := 2) (by decide) rfl (Nat.le_of_ble_eq_true rfl) ?_
  intro p e st m args below meth c A Q H cf hK hN hP hD hS hA hret ls hl
  obtain ⟨hx, hb, hml, hown, hts⟩ := id cf
  have hl : lv_has ls 2 [(0, .int (nI x)), (1, .int (nI k))] := hl
  refine lv_iload_n hx hb dX3_has_0 rfl (lv_at hl 0 rfl) ?_
  refine lv_iload_n hx hb dX3_has_1 rfl (lv_at hl 1 rfl) ?_
  refine zx_ishr hx hb (by omega) (by omega) dX3_has_2 ?_
  refine lv_iconst (v := nI 1) hx hb dX3_has_3 (by decide) ?_
  refine zx_iand hx hb dX3_has_4 ?_
  refine lv_iconst (v := nI 1) hx hb dX3_has_5 (by decide) ?_
  refine zx_icmp_ne hx hb (tgt := 13) (zx_a1 _) (by decide) dX3_has_6 (by decide) (fun c_6 => ?_) (fun c_6 => ?_)
  · refine lv_iconst (v := nI 0) hx hb dX3_has_13 (by decide) ?_
    exact hret _ _ _ _ _ _ hP hD hS dX3_has_14 zx_nar0 (zx_b_f (zx_tb0 c_6))
  · refine lv_iconst (v := nI 1) hx hb dX3_has_9 (by decide) ?_
    refine lv_goto (tgt := 14) hx hb dX3_has_10 (by decide) ?_
    exact hret _ _ _ _ _ _ hP hD hS dX3_has_14 zx_nar1 (zx_b_t (zx_tb1 c_6))
set_option maxHeartbeats 4000000 in
set_option maxRecDepth 100000 in
theorem c_X3_size (l : Launch) (D : va_G) (x : Nat) (hx0 : x < 128) : zx_C0 l D yX3_size wsX3_size rmX3_size [.int (nI x)] (nI (zp_pc x)) := by
  refine zx_of_i (cc := cX3_size) (maxL := 3) (by decide) rfl (Nat.le_of_ble_eq_true rfl) ?_
  intro p e st m args below meth c A Q H cf hK hN hP hD hS hA hret ls hl
  obtain ⟨hx, hb, hml, hown, hts⟩ := id cf
  have hl : lv_has ls 3 [(0, .int (nI x))] := hl
  refine lv_iconst (v := nI 0) hx hb dX3_size_0 (by decide) ?_
  refine lv_istore_n (lv' := [(1, .int (nI 0)), (0, .int (nI x))]) hx hb dX3_size_1 rfl hl (by decide) rfl (fun ls hl => ?_)
  refine lv_iconst (v := nI 0) hx hb dX3_size_2 (by decide) ?_
  refine lv_istore_n (lv' := [(2, .int (nI 0)), (1, .int (nI 0)), (0, .int (nI x))]) hx hb dX3_size_3 rfl hl (by decide) rfl (fun ls hl => ?_)
  have lp_4 : ∀ (n_ : Nat) (i : Nat), 7 - i < n_ → (i ≤ 7) → ∀ x0 : Int32, x0 = nI x → ∀ x1 : Int32, x1 = nI (zp_cnt (fun k => x.testBit k) i) → ∀ x2 : Int32, x2 = nI i → ∀ (H : Heap) (locs : List Loc), va_P D vwCl (zx_w0 ()) H → va_D A (zx_w0 ()) → va_S A st.heap H locs → ∀ ls : Array Slot, lv_has ls 3 [(0, .int x0), (1, .int x1), (2, .int x2)] → W p l e rmX3_size st m args below meth c H locs 0 0 Q (F0 m 4 ls []) := by
    intro n_
    induction n_ with
    | zero => intros; omega
    | succ n_ ih_4 =>
      intro i hmu_4 hi
      intro x0 ex0; subst ex0
      intro x1 ex1; subst ex1
      intro x2 ex2; subst ex2
      intro H locs hP hD hS ls hl
      have hl : lv_has ls 3 [(0, .int (nI x)), (1, .int (nI (zp_cnt (fun k => x.testBit k) i))), (2, .int (nI i))] := hl
      refine lv_iload_n hx hb dX3_size_4 rfl (lv_at hl 2 rfl) ?_
      refine lv_bipush (v := nI 7) hx hb dX3_size_5 (by decide) ?_
      refine zx_icmp_ge hx hb (tgt := 24) (by omega) (by omega) dX3_size_7 (by decide) (fun c_7 => ?_) (fun c_7 => ?_)
      · refine lv_iload_n hx hb dX3_size_24 rfl (lv_at hl 1 rfl) ?_
        exact hret _ _ _ _ _ _ hP hD hS dX3_size_25 (by have e9 : i = 7 := (by omega); subst e9; rfl)
      · refine lv_iload_n hx hb dX3_size_10 rfl (lv_at hl 1 rfl) ?_
        refine lv_iload_n hx hb dX3_size_11 rfl (lv_at hl 0 rfl) ?_
        refine lv_iload_n hx hb dX3_size_12 rfl (lv_at hl 2 rfl) ?_
        refine zx_ishr hx hb (by omega) (by omega) dX3_size_13 ?_
        refine lv_iconst (v := nI 1) hx hb dX3_size_14 (by decide) ?_
        refine zx_iand hx hb dX3_size_15 ?_
        refine zx_iadd hx hb dX3_size_16 ?_
        refine lv_istore_n (lv' := [(1, .int (nI ((zp_cnt (fun k => x.testBit k) i) + ((x / 2 ^ i) &&& 1)))), (0, .int (nI x)), (2, .int (nI i))]) hx hb dX3_size_17 rfl hl (by decide) rfl (fun ls hl => ?_)
        refine lv_iinc (v := nI (i + 1)) (lv' := [(2, .int (nI (i + 1))), (1, .int (nI ((zp_cnt (fun k => x.testBit k) i) + ((x / 2 ^ i) &&& 1)))), (0, .int (nI x))]) hx hb dX3_size_18 hl (k := 2) rfl (zx_inc _ _) (by decide) rfl (fun ls hl => ?_)
        refine lv_goto (tgt := 4) hx hb dX3_size_21 (by decide) ?_
        exact ih_4 (i + 1) (by omega) (by omega) _ rfl _ (by rw [zx_tbn]; rfl) _ rfl _ _ hP hD hS ls (lv_sub hl [2, 1, 0] rfl)
  exact lp_4 _ 0 (Nat.lt_succ_self _) (by omega) _ rfl _ rfl _ rfl _ _ hP hD hS ls (lv_sub hl [2, 1, 0] rfl)
set_option maxHeartbeats 4000000 in
set_option maxRecDepth 100000 in
theorem c_X3_delayBy (l : Launch) (D : va_G) (x : Nat) (hx0 : x < 128) : zx_C0 l D yX3_delayBy wsX3_delayBy rmX3_delayBy [.int (nI x)] (zx_i (zp_dl x)) := by
  refine zx_of_i (cc := cX3_delayBy) (maxL := 1) (by decide) rfl (Nat.le_of_ble_eq_true rfl) ?_
  intro p e st m args below meth c A Q H cf hK hN hP hD hS hA hret ls hl
  obtain ⟨hx, hb, hml, hown, hts⟩ := id cf
  have hl : lv_has ls 1 [(0, .int (nI x))] := hl
  refine lv_iload_n hx hb dX3_delayBy_0 rfl (lv_at hl 0 rfl) ?_
  by_cases c_1_97 : x = 97
  · refine lv_lookup (off := 64) (tgt := 65) hx hb dX3_delayBy_1 rfl (by rw [c_1_97]; rfl) (by decide) ?_
    refine lv_iconst (v := nI 0) hx hb dX3_delayBy_65 (by decide) ?_
    exact hret _ _ _ _ _ _ hP hD hS dX3_delayBy_66 (by show _ = _; rw [c_1_97]; decide)
  by_cases c_1_98 : x = 98
  · refine lv_lookup (off := 66) (tgt := 67) hx hb dX3_delayBy_1 rfl (by rw [c_1_98]; rfl) (by decide) ?_
    refine lv_iconst (v := nI 1) hx hb dX3_delayBy_67 (by decide) ?_
    exact hret _ _ _ _ _ _ hP hD hS dX3_delayBy_68 (by show _ = _; rw [c_1_98]; decide)
  by_cases c_1_99 : x = 99
  · refine lv_lookup (off := 68) (tgt := 69) hx hb dX3_delayBy_1 rfl (by rw [c_1_99]; rfl) (by decide) ?_
    refine lv_iconst (v := nI 2) hx hb dX3_delayBy_69 (by decide) ?_
    exact hret _ _ _ _ _ _ hP hD hS dX3_delayBy_70 (by show _ = _; rw [c_1_99]; decide)
  by_cases c_1_100 : x = 100
  · refine lv_lookup (off := 70) (tgt := 71) hx hb dX3_delayBy_1 rfl (by rw [c_1_100]; rfl) (by decide) ?_
    refine lv_iconst (v := nI 3) hx hb dX3_delayBy_71 (by decide) ?_
    exact hret _ _ _ _ _ _ hP hD hS dX3_delayBy_72 (by show _ = _; rw [c_1_100]; decide)
  by_cases c_1_121 : x = 121
  · refine lv_lookup (off := 59) (tgt := 60) hx hb dX3_delayBy_1 rfl (by rw [c_1_121]; rfl) (by decide) ?_
    refine lv_bipush (v := (-2)) hx hb dX3_delayBy_60 (by decide) ?_
    exact hret _ _ _ _ _ _ hP hD hS dX3_delayBy_62 (by show _ = _; rw [c_1_121]; decide)
  by_cases c_1_122 : x = 122
  · refine lv_lookup (off := 62) (tgt := 63) hx hb dX3_delayBy_1 rfl (by rw [c_1_122]; rfl) (by decide) ?_
    refine lv_iconst (v := (-1)) hx hb dX3_delayBy_63 (by decide) ?_
    exact hret _ _ _ _ _ _ hP hD hS dX3_delayBy_64 (by show _ = _; rw [c_1_122]; decide)
  refine lv_lookup (off := 72) (tgt := 73) hx hb dX3_delayBy_1 rfl (by rw [lv_osw (k := nI 97) (fun q => c_1_97 ((nI_eq (by omega) (by decide)).mp q)) (by decide)]; rw [lv_osw (k := nI 98) (fun q => c_1_98 ((nI_eq (by omega) (by decide)).mp q)) (by decide)]; rw [lv_osw (k := nI 99) (fun q => c_1_99 ((nI_eq (by omega) (by decide)).mp q)) (by decide)]; rw [lv_osw (k := nI 100) (fun q => c_1_100 ((nI_eq (by omega) (by decide)).mp q)) (by decide)]; rw [lv_osw (k := nI 121) (fun q => c_1_121 ((nI_eq (by omega) (by decide)).mp q)) (by decide)]; rw [lv_osw (k := nI 122) (fun q => c_1_122 ((nI_eq (by omega) (by decide)).mp q)) (by decide)]; rfl) (by decide) ?_
  refine lv_bipush (v := nI 99) hx hb dX3_delayBy_73 (by decide) ?_
  exact hret _ _ _ _ _ _ hP hD hS dX3_delayBy_75 (by show _ = _; unfold zp_dl; rw [if_neg c_1_121, if_neg c_1_122, if_neg c_1_97, if_neg c_1_98, if_neg c_1_99, if_neg c_1_100]; decide)
set_option maxHeartbeats 4000000 in
set_option maxRecDepth 100000 in
theorem c_X3_isDay (l : Launch) (D : va_G) (x : Int32)  : zx_C0 l D yX3_isDay wsX3_isDay rmX3_isDay [.int x] (zx_b (decide (nI 0 ≤ x ∧ x ≤ nI 6))) := by
  refine zx_of_z (cc := cX3_isDay) (maxL := 1) (by decide) rfl (Nat.le_of_ble_eq_true rfl) ?_
  intro p e st m args below meth c A Q H cf hK hN hP hD hS hA hret ls hl
  obtain ⟨hx, hb, hml, hown, hts⟩ := id cf
  have hl : lv_has ls 1 [(0, .int x)] := hl
  refine lv_iload_n hx hb dX3_isDay_0 rfl (lv_at hl 0 rfl) ?_
  refine lv_iconst (v := nI 0) hx hb dX3_isDay_1 (by decide) ?_
  refine lv_bipush (v := nI 6) hx hb dX3_isDay_2 (by decide) ?_
  refine zx_S (As := [.int x, .int (nI 0), .int (nI 6)]) (rest := []) cf (c_X3_within l D x (nI 0) (nI 6) ) (va_cwS 3 hts gX3_isDay_X3_within rfl rfl rfl hd_X3_within ⟨Nat.le_of_ble_eq_true rfl, Nat.le_of_ble_eq_true rfl⟩) hK hN hP hS hA rfl hl.1 rfl (Nat.le_of_ble_eq_true rfl) dX3_isDay_4 ⟨Nat.zero_le _, Nat.zero_le _⟩ (fun H locs hP hS => ?_)
  exact hret _ _ _ _ _ _ hP hD hS dX3_isDay_7 (zx_nar _) rfl
set_option maxHeartbeats 4000000 in
set_option maxRecDepth 100000 in
theorem c_X3_puts (l : Launch) (D : va_G) (K o d : Nat) (t : Bool) (hK0 : K < 2147483648) (ho : o < 2147483648) (hd : d < 2147483648) : zx_C0 l D yX3_puts wsX3_puts rmX3_puts [.int (nI K), .int (nI o), .int (nI d), .int (zx_b t)] (zx_b (zp_puts K o d t)) := by
  refine zx_of_z (cc := cX3_puts) (maxL := 4) (by decide) rfl (Nat.le_of_ble_eq_true rfl) ?_
  intro p e st m args below meth c A Q H cf hK hN hP hD hS hA hret ls hl
  obtain ⟨hx, hb, hml, hown, hts⟩ := id cf
  have hl : lv_has ls 4 [(0, .int (nI K)), (1, .int (nI o)), (2, .int (nI d)), (3, .int (zx_b t))] := hl
  refine lv_iload_n hx hb dX3_puts_0 rfl (lv_at hl 0 rfl) ?_
  by_cases c_1_1 : K = 1
  · refine lv_tableIn (off := 31) (tgt := 32) hx hb dX3_puts_1 (by rw [c_1_1]; decide) (by rw [c_1_1]; decide) (by rw [c_1_1]; rfl) (by decide) ?_
    refine lv_iload_n hx hb dX3_puts_32 rfl (lv_at hl 3 rfl) ?_
    exact hret _ _ _ _ _ _ hP hD hS dX3_puts_33 (zx_nar _) (by show _ = _; rw [c_1_1]; rfl)
  by_cases c_1_2 : K = 2
  · refine lv_tableIn (off := 33) (tgt := 34) hx hb dX3_puts_1 (by rw [c_1_2]; decide) (by rw [c_1_2]; decide) (by rw [c_1_2]; rfl) (by decide) ?_
    refine lv_iload_n hx hb dX3_puts_34 rfl (lv_at hl 3 rfl) ?_
    refine zx_bf_ne hx hb (tgt := 42) dX3_puts_35 (by decide) (fun c_35 => ?_) (fun c_35 => ?_)
    · refine lv_iconst (v := nI 0) hx hb dX3_puts_42 (by decide) ?_
      exact hret _ _ _ _ _ _ hP hD hS dX3_puts_43 zx_nar0 (by show _ = _; rw [c_1_2, c_35]; rfl)
    · refine lv_iconst (v := nI 1) hx hb dX3_puts_38 (by decide) ?_
      refine lv_goto (tgt := 43) hx hb dX3_puts_39 (by decide) ?_
      exact hret _ _ _ _ _ _ hP hD hS dX3_puts_43 zx_nar1 (by show _ = _; rw [c_1_2, c_35]; rfl)
  by_cases c_1_3 : K = 3
  · refine lv_tableIn (off := 43) (tgt := 44) hx hb dX3_puts_1 (by rw [c_1_3]; decide) (by rw [c_1_3]; decide) (by rw [c_1_3]; rfl) (by decide) ?_
    refine lv_iload_n hx hb dX3_puts_44 rfl (lv_at hl 2 rfl) ?_
    refine lv_iload_n hx hb dX3_puts_45 rfl (lv_at hl 1 rfl) ?_
    refine zx_icmp_ne hx hb (tgt := 53) (by omega) (by omega) dX3_puts_46 (by decide) (fun c_46 => ?_) (fun c_46 => ?_)
    · refine lv_iconst (v := nI 0) hx hb dX3_puts_53 (by decide) ?_
      exact hret _ _ _ _ _ _ hP hD hS dX3_puts_54 zx_nar0 (zx_b_f (by rw [c_1_3]; exact decide_eq_false c_46))
    · refine lv_iconst (v := nI 1) hx hb dX3_puts_49 (by decide) ?_
      refine lv_goto (tgt := 54) hx hb dX3_puts_50 (by decide) ?_
      exact hret _ _ _ _ _ _ hP hD hS dX3_puts_54 zx_nar1 (zx_b_t (by rw [c_1_3]; exact decide_eq_true c_46))
  by_cases c_1_4 : K = 4
  · refine lv_tableIn (off := 54) (tgt := 55) hx hb dX3_puts_1 (by rw [c_1_4]; decide) (by rw [c_1_4]; decide) (by rw [c_1_4]; rfl) (by decide) ?_
    refine lv_iload_n hx hb dX3_puts_55 rfl (lv_at hl 3 rfl) ?_
    refine zx_bf_ne hx hb (tgt := 68) dX3_puts_56 (by decide) (fun c_56 => ?_) (fun c_56 => ?_)
    · refine lv_iconst (v := nI 0) hx hb dX3_puts_68 (by decide) ?_
      exact hret _ _ _ _ _ _ hP hD hS dX3_puts_69 zx_nar0 (by show _ = _; rw [c_1_4, c_56]; rfl)
    · refine lv_iload_n hx hb dX3_puts_59 rfl (lv_at hl 2 rfl) ?_
      refine lv_iload_n hx hb dX3_puts_60 rfl (lv_at hl 1 rfl) ?_
      refine zx_icmp_eq hx hb (tgt := 68) (by omega) (by omega) dX3_puts_61 (by decide) (fun c_61 => ?_) (fun c_61 => ?_)
      · refine lv_iconst (v := nI 0) hx hb dX3_puts_68 (by decide) ?_
        exact hret _ _ _ _ _ _ hP hD hS dX3_puts_69 zx_nar0 (zx_b_f (by rw [c_1_4]; simp [zp_puts, c_61]))
      · refine lv_iconst (v := nI 1) hx hb dX3_puts_64 (by decide) ?_
        refine lv_goto (tgt := 69) hx hb dX3_puts_65 (by decide) ?_
        exact hret _ _ _ _ _ _ hP hD hS dX3_puts_69 zx_nar1 (zx_b_t (by rw [c_1_4, c_56]; simp [zp_puts, c_61]))
  refine lv_tableOut (tgt := 70) hx hb dX3_puts_1 (zx_tout (by omega) (by omega)) (by decide) ?_
  refine lv_iconst (v := nI 0) hx hb dX3_puts_70 (by decide) ?_
  exact hret _ _ _ _ _ _ hP hD hS dX3_puts_71 zx_nar0 (zx_b_f (by unfold zp_puts; rw [if_neg c_1_1, if_neg c_1_2, if_neg c_1_3, if_neg c_1_4]))
set_option maxHeartbeats 4000000 in
set_option maxRecDepth 100000 in
theorem c_X3_isDrawer (l : Launch) (D : va_G) (cI cB : ClassId) (r : Nat → Nat) (s : Nat → Nat) (a : Nat → Nat → Nat) (z : Nat → Int) (h : Int64) (x : Int32) (hI : zm_I s a z) : zx_C zx_ei l D (zm_t cI cB) (zm_w cI cB r) yX3_isDrawer wsX3_isDrawer rmX3_isDrawer [.ref (r 0), .int x] (s, a, z, h) (fun v u' => v = zx_b (zd_drw (s 0) x).isSome ∧ u' = (s, a, z, h)) := by
  refine zx_of_z (cc := cX3_isDrawer) (maxL := 2) (by decide) rfl (Nat.le_of_ble_eq_true rfl) ?_
  intro p e st m args below meth c A Q H cf hK hN hP hD hS hA hret ls hl
  obtain ⟨hx, hb, hml, hown, hts⟩ := id cf
  have hi3 : ∀ w ∈ wsX30, w ∈ wsX3_isDrawer := fun w h => List.mem_cons_of_mem _ (List.mem_append_right _ h)
  have k75 := hts (.fieldLink RX3 75 "NineDrawersModel" "isChest" "Z") (List.mem_of_getElem? (i := 1) (by decide +kernel))
  have hl : lv_has ls 2 [(0, .ref (r 0)), (1, .int x)] := hl
  have hP : va_P D vwCl ((zm_w cI cB r) (s, a, z, h)) H := hP
  have hD : va_D A ((zm_w cI cB r) (s, a, z, h)) := hD
  obtain ⟨⟨i0, i1, i3, i5, i9, i13, i14⟩, iR⟩ := id hI
  refine lv_aload_n hx hb dX3_isDrawer_0 rfl (lv_at hl 0 rfl) ?_
  refine va_get (D := D) (ci := 3) (v := .int (nI (s 0))) (C := RX3) (T := TX3) (N := 29) hx hb hts hi3 hown hK hP 0 rfl rfl 0 (by decide) k75 (fun _ h9 => h9) rfl dX3_isDrawer_1 ?_
  refine zx_if_eq hx hb (tgt := 21) (by omega) dX3_isDrawer_4 (by decide) (fun c_4 => ?_) (fun c_4 => ?_)
  · refine lv_iconst (v := nI 0) hx hb dX3_isDrawer_21 (by decide) ?_
    exact hret _ _ _ _ _ _ hP hD hS dX3_isDrawer_22 zx_nar0 ⟨zx_b_f (zd_drw_0 x c_4), rfl⟩
  · refine lv_iload_n hx hb dX3_isDrawer_7 rfl (lv_at hl 1 rfl) ?_
    refine lv_iconst (v := nI 0) hx hb dX3_isDrawer_8 (by decide) ?_
    refine lv_bipush (v := nI 8) hx hb dX3_isDrawer_9 (by decide) ?_
    refine zx_S (As := [.int x, .int (nI 0), .int (nI 8)]) (rest := []) cf (c_X3_within l D x (nI 0) (nI 8) ) (va_cwS 3 hts gX3_isDrawer_X3_within rfl rfl rfl hd_X3_within ⟨Nat.le_of_ble_eq_true rfl, Nat.le_of_ble_eq_true rfl⟩) hK hN hP hS hA rfl hl.1 rfl (Nat.le_of_ble_eq_true rfl) dX3_isDrawer_11 ⟨Nat.zero_le _, Nat.zero_le _⟩ (fun H locs hP hS => ?_)
    refine zx_bf_eq hx hb (tgt := 21) dX3_isDrawer_14 (by decide) (fun c_14 => ?_) (fun c_14 => ?_)
    · refine lv_iconst (v := nI 0) hx hb dX3_isDrawer_21 (by decide) ?_
      exact hret _ _ _ _ _ _ hP hD hS dX3_isDrawer_22 zx_nar0 ⟨zx_b_f ((zd_drw_b x c_4).trans c_14), rfl⟩
    · refine lv_iconst (v := nI 1) hx hb dX3_isDrawer_17 (by decide) ?_
      refine lv_goto (tgt := 22) hx hb dX3_isDrawer_18 (by decide) ?_
      exact hret _ _ _ _ _ _ hP hD hS dX3_isDrawer_22 zx_nar1 ⟨zx_b_t ((zd_drw_b x c_4).trans c_14), rfl⟩
set_option maxHeartbeats 4000000 in
set_option maxRecDepth 100000 in
theorem c_X3_isPerson (l : Launch) (D : va_G) (cI cB : ClassId) (r : Nat → Nat) (s : Nat → Nat) (a : Nat → Nat → Nat) (z : Nat → Int) (h : Int64) (x : Int32) (hI : zm_I s a z) : zx_C zx_ei l D (zm_t cI cB) (zm_w cI cB r) yX3_isPerson wsX3_isPerson rmX3_isPerson [.ref (r 0), .int x] (s, a, z, h) (fun v u' => v = zx_b (zd_per (s 5) x).isSome ∧ u' = (s, a, z, h)) := by
  refine zx_of_z (cc := cX3_isPerson) (maxL := 2) (by decide) rfl (Nat.le_of_ble_eq_true rfl) ?_
  intro p e st m args below meth c A Q H cf hK hN hP hD hS hA hret ls hl
  obtain ⟨hx, hb, hml, hown, hts⟩ := id cf
  have hi3 : ∀ w ∈ wsX30, w ∈ wsX3_isPerson := fun w h => List.mem_cons_of_mem _ (List.mem_append_right _ h)
  have k82 := hts (.fieldLink RX3 82 "NineDrawersModel" "people" "I") (List.mem_of_getElem? (i := 1) (by decide +kernel))
  have hl : lv_has ls 2 [(0, .ref (r 0)), (1, .int x)] := hl
  have hP : va_P D vwCl ((zm_w cI cB r) (s, a, z, h)) H := hP
  have hD : va_D A ((zm_w cI cB r) (s, a, z, h)) := hD
  obtain ⟨⟨i0, i1, i3, i5, i9, i13, i14⟩, iR⟩ := id hI
  refine lv_iload_n hx hb dX3_isPerson_0 rfl (lv_at hl 1 rfl) ?_
  refine lv_iconst (v := nI 0) hx hb dX3_isPerson_1 (by decide) ?_
  refine lv_aload_n hx hb dX3_isPerson_2 rfl (lv_at hl 0 rfl) ?_
  refine va_get (D := D) (ci := 3) (v := .int (nI (s 5))) (C := RX3) (T := TX3) (N := 29) hx hb hts hi3 hown hK hP 0 rfl rfl 5 (by decide) k82 (fun _ h9 => h9) rfl dX3_isPerson_3 ?_
  refine lv_iconst (v := nI 1) hx hb dX3_isPerson_6 (by decide) ?_
  refine lv_isub hx hb dX3_isPerson_7 ?_
  refine zx_topi (y := (nI (s 5) - nI 1)) (rfl) ?_
  refine zx_S (As := [.int x, .int (nI 0), .int (nI (s 5) - nI 1)]) (rest := []) cf (c_X3_within l D x (nI 0) (nI (s 5) - nI 1) ) (va_cwS 3 hts gX3_isPerson_X3_within rfl rfl rfl hd_X3_within ⟨Nat.le_of_ble_eq_true rfl, Nat.le_of_ble_eq_true rfl⟩) hK hN hP hS hA rfl hl.1 rfl (Nat.le_of_ble_eq_true rfl) dX3_isPerson_8 ⟨Nat.zero_le _, Nat.zero_le _⟩ (fun H locs hP hS => ?_)
  exact hret _ _ _ _ _ _ hP hD hS dX3_isPerson_11 (zx_nar _) ⟨congrArg zx_b (zd_per_b x (by omega)).symm, rfl⟩
set_option maxHeartbeats 4000000 in
set_option maxRecDepth 100000 in
theorem c_X3_aheadOf (l : Launch) (D : va_G) (cI cB : ClassId) (r : Nat → Nat) (s : Nat → Nat) (a : Nat → Nat → Nat) (z : Nat → Int) (h : Int64) (d : Nat) (hI : zm_I s a z) (hd : d < 9) : zx_C zx_ei l D (zm_t cI cB) (zm_w cI cB r) yX3_aheadOf wsX3_aheadOf rmX3_aheadOf [.ref (r 0), .int (nI d)] (s, a, z, h) (fun v u' => v = zx_i (zp_ah (s 3) (z d)) ∧ u' = (s, a, z, h)) := by
  refine zx_of_i (cc := cX3_aheadOf) (maxL := 2) (by decide) rfl (Nat.le_of_ble_eq_true rfl) ?_
  intro p e st m args below meth c A Q H cf hK hN hP hD hS hA hret ls hl
  obtain ⟨hx, hb, hml, hown, hts⟩ := id cf
  have hi3 : ∀ w ∈ wsX30, w ∈ wsX3_aheadOf := fun w h => List.mem_cons_of_mem _ (List.mem_append_right _ h)
  have k72 := hts (.fieldLink RX3 72 "NineDrawersModel" "facing" "I") (List.mem_of_getElem? (i := 1) (by decide +kernel))
  have k7 := hts (.fieldLink RX3 7 "NineDrawersModel" "delayOf" "[I") (List.mem_of_getElem? (i := 2) (by decide +kernel))
  have hl : lv_has ls 2 [(0, .ref (r 0)), (1, .int (nI d))] := hl
  have hP : va_P D vwCl ((zm_w cI cB r) (s, a, z, h)) H := hP
  have hD : va_D A ((zm_w cI cB r) (s, a, z, h)) := hD
  obtain ⟨⟨i0, i1, i3, i5, i9, i13, i14⟩, ⟨i17, i18, i19, i20, i21⟩, iP, iF, iL, iG, iZ, jL, jP, jF⟩ := id hI
  refine lv_aload_n hx hb dX3_aheadOf_0 rfl (lv_at hl 0 rfl) ?_
  refine va_get (D := D) (ci := 3) (v := .int (nI (s 3))) (C := RX3) (T := TX3) (N := 29) hx hb hts hi3 hown hK hP 0 rfl rfl 3 (by decide) k72 (fun _ h9 => h9) rfl dX3_aheadOf_1 ?_
  by_cases c_4_0 : s 3 = 0
  · refine lv_tableIn (off := 28) (tgt := 32) hx hb dX3_aheadOf_4 (by rw [c_4_0]; decide) (by rw [c_4_0]; decide) (by rw [c_4_0]; rfl) (by decide) ?_
    refine lv_aload_n hx hb dX3_aheadOf_32 rfl (lv_at hl 0 rfl) ?_
    refine va_get (D := D) (ci := 3) (v := .ref (r 2)) (C := RX3) (T := TX3) (N := 29) hx hb hts hi3 hown hK hP 0 rfl rfl 2 (by decide) k7 (fun _ h9 => h9) rfl dX3_aheadOf_33 ?_
    refine lv_iload_n hx hb dX3_aheadOf_36 rfl (lv_at hl 1 rfl) ?_
    refine zx_aldI (f := z) (n := 9) hx hb hK hP 1 0 rfl rfl (by omega) (by decide) dX3_aheadOf_37 ?_
    exact hret _ _ _ _ _ _ hP hD hS dX3_aheadOf_38 ⟨by rw [c_4_0]; rfl, rfl⟩
  by_cases c_4_1 : s 3 = 1
  · refine lv_tableIn (off := 35) (tgt := 39) hx hb dX3_aheadOf_4 (by rw [c_4_1]; decide) (by rw [c_4_1]; decide) (by rw [c_4_1]; rfl) (by decide) ?_
    refine lv_aload_n hx hb dX3_aheadOf_39 rfl (lv_at hl 0 rfl) ?_
    refine va_get (D := D) (ci := 3) (v := .ref (r 2)) (C := RX3) (T := TX3) (N := 29) hx hb hts hi3 hown hK hP 0 rfl rfl 2 (by decide) k7 (fun _ h9 => h9) rfl dX3_aheadOf_40 ?_
    refine lv_iload_n hx hb dX3_aheadOf_43 rfl (lv_at hl 1 rfl) ?_
    refine zx_aldI (f := z) (n := 9) hx hb hK hP 1 0 rfl rfl (by omega) (by decide) dX3_aheadOf_44 ?_
    refine lv_iconst (v := nI 1) hx hb dX3_aheadOf_45 (by decide) ?_
    refine lv_iadd hx hb dX3_aheadOf_46 ?_
    refine zx_topi (y := zx_i (z d + 1)) ((zx_i_add (z d) 1)) ?_
    exact hret _ _ _ _ _ _ hP hD hS dX3_aheadOf_47 ⟨by rw [c_4_1]; rfl, rfl⟩
  by_cases c_4_2 : s 3 = 2
  · refine lv_tableIn (off := 44) (tgt := 48) hx hb dX3_aheadOf_4 (by rw [c_4_2]; decide) (by rw [c_4_2]; decide) (by rw [c_4_2]; rfl) (by decide) ?_
    refine lv_aload_n hx hb dX3_aheadOf_48 rfl (lv_at hl 0 rfl) ?_
    refine va_get (D := D) (ci := 3) (v := .ref (r 2)) (C := RX3) (T := TX3) (N := 29) hx hb hts hi3 hown hK hP 0 rfl rfl 2 (by decide) k7 (fun _ h9 => h9) rfl dX3_aheadOf_49 ?_
    refine lv_iload_n hx hb dX3_aheadOf_52 rfl (lv_at hl 1 rfl) ?_
    refine zx_aldI (f := z) (n := 9) hx hb hK hP 1 0 rfl rfl (by omega) (by decide) dX3_aheadOf_53 ?_
    refine zx_inegI hx hb dX3_aheadOf_54 ?_
    exact hret _ _ _ _ _ _ hP hD hS dX3_aheadOf_55 ⟨by rw [c_4_2]; rfl, rfl⟩
  refine lv_tableOut (tgt := 56) hx hb dX3_aheadOf_4 (zx_tout (by omega) (by omega)) (by decide) ?_
  refine lv_iconst (v := nI 0) hx hb dX3_aheadOf_56 (by decide) ?_
  exact hret _ _ _ _ _ _ hP hD hS dX3_aheadOf_57 ⟨by unfold zp_ah; rw [if_neg c_4_0, if_neg c_4_1, if_neg c_4_2]; rfl, rfl⟩
end
section
set_option maxHeartbeats 4000000 in
set_option maxRecDepth 100000 in
theorem c_X3_faultNow (l : Launch) (D : va_G) (cI cB : ClassId) (r : Nat → Nat) (s : Nat → Nat) (a : Nat → Nat → Nat) (z : Nat → Int) (h : Int64) (hI : zm_I s a z) : zx_C zx_ei l D (zm_t cI cB) (zm_w cI cB r) yX3_faultNow wsX3_faultNow rmX3_faultNow [.ref (r 0)] (s, a, z, h) (fun v u' => v = nI (zp_flt (s 14) (a 15)) ∧ u' = (s, a, z, h)) := by
  refine zx_of_i (cc := cX3_faultNow) (maxL := 2) (by decide) rfl (Nat.le_of_ble_eq_true rfl) ?_
  intro p e st m args below meth c A Q H cf hK hN hP hD hS hA hret ls hl
  obtain ⟨hx, hb, hml, hown, hts⟩ := id cf
  have hi3 : ∀ w ∈ wsX30, w ∈ wsX3_faultNow := fun w h => List.mem_cons_of_mem _ (List.mem_append_right _ h)
  have k60 := hts (.fieldLink RX3 60 "NineDrawersModel" "pageLength" "I") (List.mem_of_getElem? (i := 1) (by decide +kernel))
  have k34 := hts (.fieldLink RX3 34 "NineDrawersModel" "page" "[B") (List.mem_of_getElem? (i := 2) (by decide +kernel))
  have hl : lv_has ls 2 [(0, .ref (r 0))] := hl
  have hP : va_P D vwCl ((zm_w cI cB r) (s, a, z, h)) H := hP
  have hD : va_D A ((zm_w cI cB r) (s, a, z, h)) := hD
  obtain ⟨⟨i0, i1, i3, i5, i9, i13, i14⟩, ⟨i17, i18, i19, i20, i21⟩, iP, iF, iL, iG, iZ, jL, jP, jF⟩ := id hI
  refine lv_iconst (v := nI 0) hx hb dX3_faultNow_0 (by decide) ?_
  refine lv_istore_n (lv' := [(1, .int (nI 0)), (0, .ref (r 0))]) hx hb dX3_faultNow_1 rfl hl (by decide) rfl (fun ls hl => ?_)
  have lp_2 : ∀ (n_ : Nat) (k : Nat), s 14 - k < n_ → (k ≤ s 14) → (∀ j, j < k → zp_okl j (a 15 j) = true) → ∀ x1 : Int32, x1 = nI k → ∀ (H : Heap) (locs : List Loc), va_P D vwCl ((zm_w cI cB r) (s, a, z, h)) H → va_D A ((zm_w cI cB r) (s, a, z, h)) → va_S A st.heap H locs → ∀ ls : Array Slot, lv_has ls 2 [(0, .ref (r 0)), (1, .int x1)] → W p l e rmX3_faultNow st m args below meth c H locs 0 0 Q (F0 m 2 ls []) := by
    intro n_
    induction n_ with
    | zero => intros; omega
    | succ n_ ih_2 =>
      intro k hmu_2 hk9 hno
      intro x1 ex1; subst ex1
      intro H locs hP hD hS ls hl
      have hl : lv_has ls 2 [(0, .ref (r 0)), (1, .int (nI k))] := hl
      refine lv_iload_n hx hb dX3_faultNow_2 rfl (lv_at hl 1 rfl) ?_
      refine lv_aload_n hx hb dX3_faultNow_3 rfl (lv_at hl 0 rfl) ?_
      refine va_get (D := D) (ci := 3) (v := .int (nI (s 14))) (C := RX3) (T := TX3) (N := 29) hx hb hts hi3 hown hK hP 0 rfl rfl 14 (by decide) k60 (fun _ h9 => h9) rfl dX3_faultNow_4 ?_
      refine zx_icmp_ge hx hb (tgt := 62) (by omega) (by omega) dX3_faultNow_7 (by decide) (fun c_7 => ?_) (fun c_7 => ?_)
      · refine lv_iload_n hx hb dX3_faultNow_62 rfl (lv_at hl 1 rfl) ?_
        exact hret _ _ _ _ _ _ hP hD hS dX3_faultNow_63 ⟨zp_flt_eq hk9 hno (Or.inl (by omega)), rfl⟩
      · refine lv_iload_n hx hb dX3_faultNow_10 rfl (lv_at hl 1 rfl) ?_
        refine lv_bipush (v := nI 9) hx hb dX3_faultNow_11 (by decide) ?_
        refine zx_icmp_ge hx hb (tgt := 33) (by omega) (by omega) dX3_faultNow_13 (by decide) (fun c_13 => ?_) (fun c_13 => ?_)
        · refine lv_iload_n hx hb dX3_faultNow_33 rfl (lv_at hl 1 rfl) ?_
          refine lv_bipush (v := nI 9) hx hb dX3_faultNow_34 (by decide) ?_
          refine zx_icmp_ne hx hb (tgt := 62) (by omega) (by omega) dX3_faultNow_36 (by decide) (fun c_36 => ?_) (fun c_36 => ?_)
          · refine lv_iload_n hx hb dX3_faultNow_62 rfl (lv_at hl 1 rfl) ?_
            exact hret _ _ _ _ _ _ hP hD hS dX3_faultNow_63 ⟨zp_flt_eq hk9 hno (Or.inr (zp_okl_hi c_13 c_36)), rfl⟩
          · refine lv_aload_n hx hb dX3_faultNow_39 rfl (lv_at hl 0 rfl) ?_
            refine va_get (D := D) (ci := 3) (v := .ref (r 15)) (C := RX3) (T := TX3) (N := 29) hx hb hts hi3 hown hK hP 0 rfl rfl 15 (by decide) k34 (fun _ h9 => h9) rfl dX3_faultNow_40 ?_
            refine lv_iload_n hx hb dX3_faultNow_43 rfl (lv_at hl 1 rfl) ?_
            refine zx_bld (f := a 15) (n := 12) hx hb hK hP 9 1 rfl rfl (by omega) (by decide) dX3_faultNow_44 ?_
            refine lv_bipush (v := nI 48) hx hb dX3_faultNow_45 (by decide) ?_
            refine lv_isub hx hb dX3_faultNow_47 ?_
            refine zx_topi (y := (nI (a 15 k) - nI 48)) (rfl) ?_
            refine lv_iconst (v := nI 0) hx hb dX3_faultNow_48 (by decide) ?_
            refine lv_iconst (v := nI 3) hx hb dX3_faultNow_49 (by decide) ?_
            refine zx_S (As := [.int (nI (a 15 k) - nI 48), .int (nI 0), .int (nI 3)]) (rest := []) cf (c_X3_within l D (nI (a 15 k) - nI 48) (nI 0) (nI 3) ) (va_cwS 3 hts gX3_faultNow_X3_within rfl rfl rfl hd_X3_within ⟨Nat.le_of_ble_eq_true rfl, Nat.le_of_ble_eq_true rfl⟩) hK hN hP hS hA rfl hl.1 rfl (Nat.le_of_ble_eq_true rfl) dX3_faultNow_50 ⟨Nat.zero_le _, Nat.zero_le _⟩ (fun H locs hP hS => ?_)
            refine zx_topi (y := zx_b (decide (48 ≤ a 15 k) && decide (a 15 k ≤ 51))) (congrArg zx_b (zx_dig _ (iG k (by omega)))) ?_
            refine zx_bf_eq hx hb (tgt := 62) dX3_faultNow_53 (by decide) (fun c_53 => ?_) (fun c_53 => ?_)
            · refine lv_iload_n hx hb dX3_faultNow_62 rfl (lv_at hl 1 rfl) ?_
              exact hret _ _ _ _ _ _ hP hD hS dX3_faultNow_63 ⟨zp_flt_eq hk9 hno (Or.inr (zp_okl_9 c_36 c_53)), rfl⟩
            · refine lv_iinc (v := nI (k + 1)) (lv' := [(1, .int (nI (k + 1))), (0, .ref (r 0))]) hx hb dX3_faultNow_56 hl (k := 1) rfl (zx_inc _ _) (by decide) rfl (fun ls hl => ?_)
              refine lv_goto (tgt := 2) hx hb dX3_faultNow_59 (by decide) ?_
              exact ih_2 (k + 1) (by omega) (by omega) (lt_s hno (zp_okl_9 c_36 c_53)) _ rfl _ _ hP hD hS ls (lv_sub hl [1, 0] rfl)
        · refine lv_aload_n hx hb dX3_faultNow_16 rfl (lv_at hl 0 rfl) ?_
          refine va_get (D := D) (ci := 3) (v := .ref (r 15)) (C := RX3) (T := TX3) (N := 29) hx hb hts hi3 hown hK hP 0 rfl rfl 15 (by decide) k34 (fun _ h9 => h9) rfl dX3_faultNow_17 ?_
          refine lv_iload_n hx hb dX3_faultNow_20 rfl (lv_at hl 1 rfl) ?_
          refine zx_bld (f := a 15) (n := 12) hx hb hK hP 9 1 rfl rfl (by omega) (by decide) dX3_faultNow_21 ?_
          refine zx_S (As := [.int (nI ((a 15) k))]) (rest := []) cf (c_X3_delayBy l D ((a 15) k) (iG k (by omega))) (va_cwS 1 hts gX3_faultNow_X3_delayBy rfl rfl rfl hd_X3_delayBy ⟨Nat.le_of_ble_eq_true rfl, Nat.le_of_ble_eq_true rfl⟩) hK hN hP hS hA rfl hl.1 rfl (Nat.le_of_ble_eq_true rfl) dX3_faultNow_22 ⟨Nat.zero_le _, Nat.zero_le _⟩ (fun H locs hP hS => ?_)
          refine lv_bipush (v := nI 99) hx hb dX3_faultNow_25 (by decide) ?_
          refine lv_icmp_eq (tgt := 62) hx hb dX3_faultNow_27 (by decide) (fun c_27 => ?_) (fun c_27 => ?_)
          · refine lv_iload_n hx hb dX3_faultNow_62 rfl (lv_at hl 1 rfl) ?_
            exact hret _ _ _ _ _ _ hP hD hS dX3_faultNow_63 ⟨zp_flt_eq hk9 hno (Or.inr (zp_okl_lo0 c_13 (iG k (by omega)) c_27)), rfl⟩
          · refine lv_goto (tgt := 56) hx hb dX3_faultNow_30 (by decide) ?_
            refine lv_iinc (v := nI (k + 1)) (lv' := [(1, .int (nI (k + 1))), (0, .ref (r 0))]) hx hb dX3_faultNow_56 hl (k := 1) rfl (zx_inc _ _) (by decide) rfl (fun ls hl => ?_)
            refine lv_goto (tgt := 2) hx hb dX3_faultNow_59 (by decide) ?_
            exact ih_2 (k + 1) (by omega) (by omega) (lt_s hno (zp_okl_lo c_13 (iG k (by omega)) c_27)) _ rfl _ _ hP hD hS ls (lv_sub hl [1, 0] rfl)
  exact lp_2 _ 0 (Nat.lt_succ_self _) (Nat.zero_le _) (fun j hj => absurd hj (Nat.not_lt_zero j)) _ rfl _ _ hP hD hS ls (lv_sub hl [1, 0] rfl)
set_option maxHeartbeats 4000000 in
set_option maxRecDepth 100000 in
theorem c_X3_fault (l : Launch) (D : va_G) (cI cB : ClassId) (r : Nat → Nat) (s : Nat → Nat) (a : Nat → Nat → Nat) (z : Nat → Int) (h : Int64) (hI : zm_I s a z) : zx_C zx_ei l D (zm_t cI cB) (zm_w cI cB r) yX3_fault wsX3_fault rmX3_fault [.ref (r 0)] (s, a, z, h) (fun v u' => v = nI (zp_flt (s 14) (a 15)) ∧ u' = (s, a, z, h)) := by
  refine zx_of_i (cc := cX3_fault) (maxL := 1) (by decide) rfl (Nat.le_of_ble_eq_true rfl) ?_
  intro p e st m args below meth c A Q H cf hK hN hP hD hS hA hret ls hl
  obtain ⟨hx, hb, hml, hown, hts⟩ := id cf
  have hl : lv_has ls 1 [(0, .ref (r 0))] := hl
  have hP : va_P D vwCl ((zm_w cI cB r) (s, a, z, h)) H := hP
  have hD : va_D A ((zm_w cI cB r) (s, a, z, h)) := hD
  refine lv_aload_n hx hb dX3_fault_0 rfl (lv_at hl 0 rfl) ?_
  refine zx_V_i (As := []) (rest := []) cf (c_X3_faultNow l D cI cB r s a z h  hI ) (cwV 0 hts gX3_fault_X3_faultNow rfl rfl rfl ⟨rfl, hd_X3_faultNow⟩ ⟨Nat.le_of_ble_eq_true rfl, Nat.le_of_ble_eq_true rfl⟩) hK hN hP hD hS hA 0 rfl rfl rfl hl.1 rfl (Nat.le_of_ble_eq_true rfl) dX3_fault_1 ⟨Nat.zero_le _, Nat.zero_le _⟩ (fun v_1 u_1 H locs hq hP hD hS => ?_)
  obtain ⟨rfl, rfl⟩ := hq
  exact hret _ _ _ _ _ _ hP hD hS dX3_fault_4 ⟨rfl, rfl⟩
set_option maxHeartbeats 4000000 in
set_option maxRecDepth 100000 in
theorem c_X3_letter (l : Launch) (D : va_G) (cI cB : ClassId) (r : Nat → Nat) (s : Nat → Nat) (a : Nat → Nat → Nat) (z : Nat → Int) (h : Int64) (x : Int32) (hI : zm_I s a z) : zx_C zx_ei l D (zm_t cI cB) (zm_w cI cB r) yX3_letter wsX3_letter rmX3_letter [.ref (r 0), .int x] (s, a, z, h) (fun v u' => zd_out (zd_letter (s 14) x) (fun e9 => v = e9 ∧ u' = (s, a, z, h)) (fun k => v = nI (s 14 + 1) ∧ u' = (zx_up s 14 (s 14 + 1), zx_up a 15 (zx_up (a 15) (s 14) k), z, h))) := by
  refine zx_of_i (cc := cX3_letter) (maxL := 2) (by decide) rfl (Nat.le_of_ble_eq_true rfl) ?_
  intro p e st m args below meth c A Q H cf hK hN hP hD hS hA hret ls hl
  obtain ⟨hx, hb, hml, hown, hts⟩ := id cf
  have hi3 : ∀ w ∈ wsX30, w ∈ wsX3_letter := fun w h => List.mem_cons_of_mem _ (List.mem_append_right _ h)
  have k60 := hts (.fieldLink RX3 60 "NineDrawersModel" "pageLength" "I") (List.mem_of_getElem? (i := 1) (by decide +kernel))
  have k34 := hts (.fieldLink RX3 34 "NineDrawersModel" "page" "[B") (List.mem_of_getElem? (i := 2) (by decide +kernel))
  have hl : lv_has ls 2 [(0, .ref (r 0)), (1, .int x)] := hl
  have hP : va_P D vwCl ((zm_w cI cB r) (s, a, z, h)) H := hP
  have hD : va_D A ((zm_w cI cB r) (s, a, z, h)) := hD
  obtain ⟨⟨i0, i1, i3, i5, i9, i13, i14⟩, ⟨i17, i18, i19, i20, i21⟩, iP, iF, iL, iG, iZ, jL, jP, jF⟩ := id hI
  refine lv_iload_n hx hb dX3_letter_0 rfl (lv_at hl 1 rfl) ?_
  refine lv_bipush (v := nI 32) hx hb dX3_letter_1 (by decide) ?_
  refine lv_bipush (v := nI 126) hx hb dX3_letter_3 (by decide) ?_
  refine zx_S (As := [.int x, .int (nI 32), .int (nI 126)]) (rest := []) cf (c_X3_within l D x (nI 32) (nI 126) ) (va_cwS 3 hts gX3_letter_X3_within rfl rfl rfl hd_X3_within ⟨Nat.le_of_ble_eq_true rfl, Nat.le_of_ble_eq_true rfl⟩) hK hN hP hS hA rfl hl.1 rfl (Nat.le_of_ble_eq_true rfl) dX3_letter_5 ⟨Nat.zero_le _, Nat.zero_le _⟩ (fun H locs hP hS => ?_)
  refine zx_bf_ne hx hb (tgt := 14) dX3_letter_8 (by decide) (fun c_8 => ?_) (fun c_8 => ?_)
  · obtain ⟨k, rfl, hk1, hk2, hz⟩ := zd_yes (by decide) (by decide) c_8
    refine lv_aload_n hx hb dX3_letter_14 rfl (lv_at hl 0 rfl) ?_
    refine va_get (D := D) (ci := 3) (v := .int (nI (s 14))) (C := RX3) (T := TX3) (N := 29) hx hb hts hi3 hown hK hP 0 rfl rfl 14 (by decide) k60 (fun _ h9 => h9) rfl dX3_letter_15 ?_
    refine lv_bipush (v := nI 12) hx hb dX3_letter_18 (by decide) ?_
    refine zx_icmp_ne hx hb (tgt := 26) (by omega) (by omega) dX3_letter_20 (by decide) (fun c_20 => ?_) (fun c_20 => ?_)
    · refine lv_aload_n hx hb dX3_letter_26 rfl (lv_at hl 0 rfl) ?_
      refine va_get (D := D) (ci := 3) (v := .ref (r 15)) (C := RX3) (T := TX3) (N := 29) hx hb hts hi3 hown hK hP 0 rfl rfl 15 (by decide) k34 (fun _ h9 => h9) rfl dX3_letter_27 ?_
      refine lv_aload_n hx hb dX3_letter_30 rfl (lv_at hl 0 rfl) ?_
      refine va_get (D := D) (ci := 3) (v := .int (nI (s 14))) (C := RX3) (T := TX3) (N := 29) hx hb hts hi3 hown hK hP 0 rfl rfl 14 (by decide) k60 (fun _ h9 => h9) rfl dX3_letter_31 ?_
      refine lv_iload_n hx hb dX3_letter_34 rfl (lv_at hl 1 rfl) ?_
      refine zx_i2b hx hb (by omega) dX3_letter_35 ?_
      refine zx_bst (f := a 15) (n := 12) (ws' := (zm_w cI cB r) (s, (zx_up a 15 (zx_up (a 15) (s 14) k)), z, h)) hx hb hK hP hD hS 9 1 rfl rfl (by omega) (by decide) (by omega) rfl dX3_letter_36 (fun H locs hP hD hS => ?_)
      refine lv_aload_n hx hb dX3_letter_37 rfl (lv_at hl 0 rfl) ?_
      refine lv_dup hx hb dX3_letter_38 rfl ?_
      refine va_get (D := D) (ci := 3) (v := .int (nI (s 14))) (C := RX3) (T := TX3) (N := 29) hx hb hts hi3 hown hK hP 0 rfl rfl 14 (by decide) k60 (fun _ h9 => h9) rfl dX3_letter_39 ?_
      refine lv_iconst (v := nI 1) hx hb dX3_letter_42 (by decide) ?_
      refine zx_iadd hx hb dX3_letter_43 ?_
      refine zx_put (D := D) (ci := 3) (ty := .int) (v := .int (nI ((s 14) + 1))) (ws' := (zm_w cI cB r) ((zx_up s 14 ((s 14) + 1)), (zx_up a 15 (zx_up (a 15) (s 14) k)), z, h)) (C := RX3) (T := TX3) (N := 29) hx hb hts hi3 tyX3 tyX3_ok nmX3 hown hK hP hD hS 0 rfl rfl 14 (by decide) k60 (fun _ h9 => h9) rfl (by decide +kernel) rfl rfl (Nat.le_of_ble_eq_true rfl) rfl dX3_letter_44 (fun H locs hP hD hS => ?_)
      refine lv_aload_n hx hb dX3_letter_47 rfl (lv_at hl 0 rfl) ?_
      refine va_get (D := D) (ci := 3) (v := .int (nI ((s 14) + 1))) (C := RX3) (T := TX3) (N := 29) hx hb hts hi3 hown hK hP 0 rfl rfl 14 (by decide) k60 (fun _ h9 => h9) rfl dX3_letter_48 ?_
      exact hret _ _ _ _ _ _ hP hD hS dX3_letter_51 (zd_inr (by unfold zd_letter; rw [hz]; exact if_neg c_20) ⟨rfl, rfl⟩)
    · refine lv_bipush (v := (-104)) hx hb dX3_letter_23 (by decide) ?_
      exact hret _ _ _ _ _ _ hP hD hS dX3_letter_25 (zd_inl (by unfold zd_letter; rw [hz]; exact if_pos c_20) ⟨rfl, rfl⟩)
  · refine lv_bipush (v := (-102)) hx hb dX3_letter_11 (by decide) ?_
    exact hret _ _ _ _ _ _ hP hD hS dX3_letter_13 (zd_inl (by unfold zd_letter; rw [zd_nos c_8]) ⟨rfl, rfl⟩)
set_option maxHeartbeats 4000000 in
set_option maxRecDepth 100000 in
theorem c_X3_blank (l : Launch) (D : va_G) (cI cB : ClassId) (r : Nat → Nat) (s : Nat → Nat) (a : Nat → Nat → Nat) (z : Nat → Int) (h : Int64) (hI : zm_I s a z) : zx_C zx_ei l D (zm_t cI cB) (zm_w cI cB r) yX3_blank wsX3_blank rmX3_blank [.ref (r 0)] (s, a, z, h) (fun v u' => v = nI (s 14) ∧ u' = (zx_up s 14 0, a, z, h)) := by
  refine zx_of_i (cc := cX3_blank) (maxL := 2) (by decide) rfl (Nat.le_of_ble_eq_true rfl) ?_
  intro p e st m args below meth c A Q H cf hK hN hP hD hS hA hret ls hl
  obtain ⟨hx, hb, hml, hown, hts⟩ := id cf
  have hi3 : ∀ w ∈ wsX30, w ∈ wsX3_blank := fun w h => List.mem_cons_of_mem _ (List.mem_append_right _ h)
  have k60 := hts (.fieldLink RX3 60 "NineDrawersModel" "pageLength" "I") (List.mem_of_getElem? (i := 1) (by decide +kernel))
  have hl : lv_has ls 2 [(0, .ref (r 0))] := hl
  have hP : va_P D vwCl ((zm_w cI cB r) (s, a, z, h)) H := hP
  have hD : va_D A ((zm_w cI cB r) (s, a, z, h)) := hD
  refine lv_aload_n hx hb dX3_blank_0 rfl (lv_at hl 0 rfl) ?_
  refine va_get (D := D) (ci := 3) (v := .int (nI (s 14))) (C := RX3) (T := TX3) (N := 29) hx hb hts hi3 hown hK hP 0 rfl rfl 14 (by decide) k60 (fun _ h9 => h9) rfl dX3_blank_1 ?_
  refine lv_istore_n (lv' := [(1, .int (nI (s 14))), (0, .ref (r 0))]) hx hb dX3_blank_4 rfl hl (by decide) rfl (fun ls hl => ?_)
  refine lv_aload_n hx hb dX3_blank_5 rfl (lv_at hl 1 rfl) ?_
  refine lv_iconst (v := nI 0) hx hb dX3_blank_6 (by decide) ?_
  refine zx_put (D := D) (ci := 3) (ty := .int) (v := .int (nI 0)) (ws' := (zm_w cI cB r) ((zx_up s 14 0), a, z, h)) (C := RX3) (T := TX3) (N := 29) hx hb hts hi3 tyX3 tyX3_ok nmX3 hown hK hP hD hS 0 rfl rfl 14 (by decide) k60 (fun _ h9 => h9) rfl (by decide +kernel) rfl rfl (Nat.le_of_ble_eq_true rfl) rfl dX3_blank_7 (fun H locs hP hD hS => ?_)
  refine lv_iload_n hx hb dX3_blank_10 rfl (lv_at hl 0 rfl) ?_
  exact hret _ _ _ _ _ _ hP hD hS dX3_blank_11 ⟨rfl, rfl⟩
set_option maxHeartbeats 4000000 in
set_option maxRecDepth 100000 in
theorem c_X3_face (l : Launch) (D : va_G) (cI cB : ClassId) (r : Nat → Nat) (s : Nat → Nat) (a : Nat → Nat → Nat) (z : Nat → Int) (h : Int64) (x : Int32) (hI : zm_I s a z) : zx_C zx_ei l D (zm_t cI cB) (zm_w cI cB r) yX3_face wsX3_face rmX3_face [.ref (r 0), .int x] (s, a, z, h) (fun v u' => zd_out (zd_face (s 0) x) (fun e9 => v = e9 ∧ u' = (s, a, z, h)) (fun k => v = nI (s 3) ∧ u' = (zx_up s 3 k, a, z, h))) := by
  refine zx_of_i (cc := cX3_face) (maxL := 3) (by decide) rfl (Nat.le_of_ble_eq_true rfl) ?_
  intro p e st m args below meth c A Q H cf hK hN hP hD hS hA hret ls hl
  obtain ⟨hx, hb, hml, hown, hts⟩ := id cf
  have hi3 : ∀ w ∈ wsX30, w ∈ wsX3_face := fun w h => List.mem_cons_of_mem _ (List.mem_append_right _ h)
  have k75 := hts (.fieldLink RX3 75 "NineDrawersModel" "isChest" "Z") (List.mem_of_getElem? (i := 1) (by decide +kernel))
  have k72 := hts (.fieldLink RX3 72 "NineDrawersModel" "facing" "I") (List.mem_of_getElem? (i := 2) (by decide +kernel))
  have hl : lv_has ls 3 [(0, .ref (r 0)), (1, .int x)] := hl
  have hP : va_P D vwCl ((zm_w cI cB r) (s, a, z, h)) H := hP
  have hD : va_D A ((zm_w cI cB r) (s, a, z, h)) := hD
  obtain ⟨⟨i0, i1, i3, i5, i9, i13, i14⟩, ⟨i17, i18, i19, i20, i21⟩, iP, iF, iL, iG, iZ, jL, jP, jF⟩ := id hI
  refine lv_iload_n hx hb dX3_face_0 rfl (lv_at hl 1 rfl) ?_
  refine lv_iconst (v := nI 0) hx hb dX3_face_1 (by decide) ?_
  refine lv_iconst (v := nI 3) hx hb dX3_face_2 (by decide) ?_
  refine zx_S (As := [.int x, .int (nI 0), .int (nI 3)]) (rest := []) cf (c_X3_within l D x (nI 0) (nI 3) ) (va_cwS 3 hts gX3_face_X3_within rfl rfl rfl hd_X3_within ⟨Nat.le_of_ble_eq_true rfl, Nat.le_of_ble_eq_true rfl⟩) hK hN hP hS hA rfl hl.1 rfl (Nat.le_of_ble_eq_true rfl) dX3_face_3 ⟨Nat.zero_le _, Nat.zero_le _⟩ (fun H locs hP hS => ?_)
  refine zx_bf_ne hx hb (tgt := 12) dX3_face_6 (by decide) (fun c_6 => ?_) (fun c_6 => ?_)
  · obtain ⟨k, rfl, hk1, hk2, hz⟩ := zd_yes (by decide) (by decide) c_6
    refine lv_aload_n hx hb dX3_face_12 rfl (lv_at hl 0 rfl) ?_
    refine va_get (D := D) (ci := 3) (v := .int (nI (s 0))) (C := RX3) (T := TX3) (N := 29) hx hb hts hi3 hown hK hP 0 rfl rfl 0 (by decide) k75 (fun _ h9 => h9) rfl dX3_face_13 ?_
    refine zx_if_ne hx hb (tgt := 22) (by omega) dX3_face_16 (by decide) (fun c_16 => ?_) (fun c_16 => ?_)
    · refine lv_aload_n hx hb dX3_face_22 rfl (lv_at hl 0 rfl) ?_
      refine va_get (D := D) (ci := 3) (v := .int (nI (s 3))) (C := RX3) (T := TX3) (N := 29) hx hb hts hi3 hown hK hP 0 rfl rfl 3 (by decide) k72 (fun _ h9 => h9) rfl dX3_face_23 ?_
      refine lv_istore_n (lv' := [(2, .int (nI (s 3))), (0, .ref (r 0)), (1, .int (nI k))]) hx hb dX3_face_26 rfl hl (by decide) rfl (fun ls hl => ?_)
      refine lv_aload_n hx hb dX3_face_27 rfl (lv_at hl 1 rfl) ?_
      refine lv_iload_n hx hb dX3_face_28 rfl (lv_at hl 2 rfl) ?_
      refine zx_put (D := D) (ci := 3) (ty := .int) (v := .int (nI k)) (ws' := (zm_w cI cB r) ((zx_up s 3 k), a, z, h)) (C := RX3) (T := TX3) (N := 29) hx hb hts hi3 tyX3 tyX3_ok nmX3 hown hK hP hD hS 0 rfl rfl 3 (by decide) k72 (fun _ h9 => h9) rfl (by decide +kernel) rfl rfl (Nat.le_of_ble_eq_true rfl) rfl dX3_face_29 (fun H locs hP hD hS => ?_)
      refine lv_iload_n hx hb dX3_face_32 rfl (lv_at hl 0 rfl) ?_
      exact hret _ _ _ _ _ _ hP hD hS dX3_face_33 (zd_inr (by unfold zd_face; rw [hz]; exact if_neg c_16) ⟨rfl, rfl⟩)
    · refine lv_bipush (v := (-103)) hx hb dX3_face_19 (by decide) ?_
      exact hret _ _ _ _ _ _ hP hD hS dX3_face_21 (zd_inl (by unfold zd_face; rw [hz]; exact if_pos c_16) ⟨rfl, rfl⟩)
  · refine lv_bipush (v := (-102)) hx hb dX3_face_9 (by decide) ?_
    exact hret _ _ _ _ _ _ hP hD hS dX3_face_11 (zd_inl (by unfold zd_face; rw [zd_nos c_6]) ⟨rfl, rfl⟩)
set_option maxHeartbeats 4000000 in
set_option maxRecDepth 100000 in
theorem c_X3_chest (l : Launch) (D : va_G) (cI cB : ClassId) (r : Nat → Nat) (s : Nat → Nat) (a : Nat → Nat → Nat) (z : Nat → Int) (h : Int64) (hI : zm_I s a z) : zx_C zx_ei l D (zm_t cI cB) (zm_w cI cB r) yX3_chest wsX3_chest rmX3_chest [.ref (r 0)] (s, a, z, h) (fun v u' => zd_out (zd_chest (s 14) (a 15)) (fun e9 => v = e9 ∧ u' = (s, a, z, h)) (fun _ => v = nI (zp_cnt (fun j => !decide (zp_dl (a 15 j) = 0)) 9) ∧ ∃ (b : Nat → Nat → Nat) (y : Nat → Int), u' = (zx_up (zx_up (zx_up (zx_up (zx_up (zx_up s 3 (a 15 9 - 48)) 0 1) 1 (s 1 + 1)) 5 0) 9 0) 14 0, b, y, h) ∧ (∀ j, j < 9 → y j = zp_dl (a 15 j)) ∧ (∀ j, j < 9 → b 4 j = 0) ∧ (∀ k, k ≠ 4 → b k = a k))) := by
  refine zx_of_i (cc := cX3_chest) (maxL := 3) (by decide) rfl (Nat.le_of_ble_eq_true rfl) ?_
  intro p e st m args below meth c A Q H cf hK hN hP hD hS hA hret ls hl
  obtain ⟨hx, hb, hml, hown, hts⟩ := id cf
  have hi3 : ∀ w ∈ wsX30, w ∈ wsX3_chest := fun w h => List.mem_cons_of_mem _ (List.mem_append_right _ h)
  have k60 := hts (.fieldLink RX3 60 "NineDrawersModel" "pageLength" "I") (List.mem_of_getElem? (i := 1) (by decide +kernel))
  have k34 := hts (.fieldLink RX3 34 "NineDrawersModel" "page" "[B") (List.mem_of_getElem? (i := 3) (by decide +kernel))
  have k72 := hts (.fieldLink RX3 72 "NineDrawersModel" "facing" "I") (List.mem_of_getElem? (i := 5) (by decide +kernel))
  have k75 := hts (.fieldLink RX3 75 "NineDrawersModel" "isChest" "Z") (List.mem_of_getElem? (i := 6) (by decide +kernel))
  have k79 := hts (.fieldLink RX3 79 "NineDrawersModel" "chests" "I") (List.mem_of_getElem? (i := 7) (by decide +kernel))
  have k82 := hts (.fieldLink RX3 82 "NineDrawersModel" "people" "I") (List.mem_of_getElem? (i := 8) (by decide +kernel))
  have k85 := hts (.fieldLink RX3 85 "NineDrawersModel" "found" "I") (List.mem_of_getElem? (i := 9) (by decide +kernel))
  have k7 := hts (.fieldLink RX3 7 "NineDrawersModel" "delayOf" "[I") (List.mem_of_getElem? (i := 2) (by decide +kernel))
  have k13 := hts (.fieldLink RX3 13 "NineDrawersModel" "laidIn" "[I") (List.mem_of_getElem? (i := 4) (by decide +kernel))
  have hl : lv_has ls 3 [(0, .ref (r 0))] := hl
  have hP : va_P D vwCl ((zm_w cI cB r) (s, a, z, h)) H := hP
  have hD : va_D A ((zm_w cI cB r) (s, a, z, h)) := hD
  obtain ⟨⟨i0, i1, i3, i5, i9, i13, i14⟩, ⟨i17, i18, i19, i20, i21⟩, iP, iF, iL, iG, iZ, jL, jP, jF⟩ := id hI
  refine lv_aload_n hx hb dX3_chest_0 rfl (lv_at hl 0 rfl) ?_
  refine va_get (D := D) (ci := 3) (v := .int (nI (s 14))) (C := RX3) (T := TX3) (N := 29) hx hb hts hi3 hown hK hP 0 rfl rfl 14 (by decide) k60 (fun _ h9 => h9) rfl dX3_chest_1 ?_
  refine lv_bipush (v := nI 10) hx hb dX3_chest_4 (by decide) ?_
  refine zx_icmp_ne hx hb (tgt := 20) (by omega) (by omega) dX3_chest_6 (by decide) (fun c_6 => ?_) (fun c_6 => ?_)
  · refine lv_bipush (v := (-103)) hx hb dX3_chest_20 (by decide) ?_
    exact hret _ _ _ _ _ _ hP hD hS dX3_chest_22 (zd_inl (zd_chestF (Or.inl c_6)) ⟨rfl, rfl⟩)
  · refine lv_aload_n hx hb dX3_chest_9 rfl (lv_at hl 0 rfl) ?_
    refine zx_V_i (As := []) (rest := []) cf (c_X3_faultNow l D cI cB r s a z h  hI ) (cwV 0 hts gX3_chest_X3_faultNow rfl rfl rfl ⟨rfl, hd_X3_faultNow⟩ ⟨Nat.le_of_ble_eq_true rfl, Nat.le_of_ble_eq_true rfl⟩) hK hN hP hD hS hA 0 rfl rfl rfl hl.1 rfl (Nat.le_of_ble_eq_true rfl) dX3_chest_10 ⟨Nat.zero_le _, Nat.zero_le _⟩ (fun v_10 u_10 H locs hq hP hD hS => ?_)
    obtain ⟨rfl, rfl⟩ := hq
    refine lv_aload_n hx hb dX3_chest_13 rfl (lv_at hl 0 rfl) ?_
    refine va_get (D := D) (ci := 3) (v := .int (nI (s 14))) (C := RX3) (T := TX3) (N := 29) hx hb hts hi3 hown hK hP 0 rfl rfl 14 (by decide) k60 (fun _ h9 => h9) rfl dX3_chest_14 ?_
    refine zx_icmp_eq hx hb (tgt := 23) (by have := zp_flt_le (s 14) (a 15); omega) (by omega) dX3_chest_17 (by decide) (fun c_17 => ?_) (fun c_17 => ?_)
    · have hok := zp_flt_ok (c_17.symm ▸ rfl : zp_flt (s 14) (a 15) = s 14)
      have h9 := zp_okl9 (hok 9 (by omega))
      refine lv_iconst (v := nI 0) hx hb dX3_chest_23 (by decide) ?_
      refine lv_istore_n (lv' := [(1, .int (nI 0)), (0, .ref (r 0))]) hx hb dX3_chest_24 rfl hl (by decide) rfl (fun ls hl => ?_)
      refine lv_iconst (v := nI 0) hx hb dX3_chest_25 (by decide) ?_
      refine lv_istore_n (lv' := [(2, .int (nI 0)), (1, .int (nI 0)), (0, .ref (r 0))]) hx hb dX3_chest_26 rfl hl (by decide) rfl (fun ls hl => ?_)
      have lp_27 : ∀ (n_ : Nat) (d : Nat) (b : Nat → Nat → Nat) (y : Nat → Int), 9 - d < n_ → (d ≤ 9) → (∀ j, j < d → y j = zp_dl (a 15 j)) → (∀ j, j < d → b 4 j = 0) → (∀ k, k ≠ 4 → b k = a k) → ∀ x1 : Int32, x1 = nI (zp_cnt (fun j => !decide (zp_dl (a 15 j) = 0)) d) → ∀ x2 : Int32, x2 = nI d → ∀ (H : Heap) (locs : List Loc), va_P D vwCl ((zm_w cI cB r) (s, b, y, h)) H → va_D A ((zm_w cI cB r) (s, b, y, h)) → va_S A st.heap H locs → ∀ ls : Array Slot, lv_has ls 3 [(0, .ref (r 0)), (1, .int x1), (2, .int x2)] → W p l e rmX3_chest st m args below meth c H locs 0 0 Q (F0 m 27 ls []) := by
        intro n_
        induction n_ with
        | zero => intros; omega
        | succ n_ ih_27 =>
          intro d b y hmu_27 hd9 gy g4 gb
          intro x1 ex1; subst ex1
          intro x2 ex2; subst ex2
          intro H locs hP hD hS ls hl
          have hl : lv_has ls 3 [(0, .ref (r 0)), (1, .int (nI (zp_cnt (fun j => !decide (zp_dl (a 15 j) = 0)) d))), (2, .int (nI d))] := hl
          refine lv_iload_n hx hb dX3_chest_27 rfl (lv_at hl 2 rfl) ?_
          refine lv_bipush (v := nI 9) hx hb dX3_chest_28 (by decide) ?_
          refine zx_icmp_ge hx hb (tgt := 78) (by omega) (by omega) dX3_chest_30 (by decide) (fun c_30 => ?_) (fun c_30 => ?_)
          · refine lv_aload_n hx hb dX3_chest_78 rfl (lv_at hl 0 rfl) ?_
            refine lv_aload_n hx hb dX3_chest_79 rfl (lv_at hl 0 rfl) ?_
            refine va_get (D := D) (ci := 3) (v := .ref (r 15)) (C := RX3) (T := TX3) (N := 29) hx hb hts hi3 hown hK hP 0 rfl rfl 15 (by decide) k34 (fun _ h9 => h9) rfl dX3_chest_80 ?_
            refine lv_bipush (v := nI 9) hx hb dX3_chest_83 (by decide) ?_
            refine zx_bld (f := b 15) (n := 12) hx hb hK hP 9 1 rfl rfl (by omega) (by decide) dX3_chest_85 ?_
            refine lv_bipush (v := nI 48) hx hb dX3_chest_86 (by decide) ?_
            refine zx_isub hx hb (by rw [gb 15 (by decide)]; exact h9.1) dX3_chest_88 ?_
            refine zx_topi (y := nI (a 15 9 - 48)) ((by rw [gb 15 (by decide)])) ?_
            refine zx_put (D := D) (ci := 3) (ty := .int) (v := .int (nI (a 15 9 - 48))) (ws' := (zm_w cI cB r) ((zx_up s 3 (a 15 9 - 48)), b, y, h)) (C := RX3) (T := TX3) (N := 29) hx hb hts hi3 tyX3 tyX3_ok nmX3 hown hK hP hD hS 0 rfl rfl 3 (by decide) k72 (fun _ h9 => h9) rfl (by decide +kernel) rfl rfl (Nat.le_of_ble_eq_true rfl) rfl dX3_chest_89 (fun H locs hP hD hS => ?_)
            refine lv_aload_n hx hb dX3_chest_92 rfl (lv_at hl 0 rfl) ?_
            refine lv_iconst (v := nI 1) hx hb dX3_chest_93 (by decide) ?_
            refine zx_put (D := D) (ci := 3) (ty := .boolean) (v := .int (nI 1)) (ws' := (zm_w cI cB r) ((zx_up (zx_up s 3 (a 15 9 - 48)) 0 1), b, y, h)) (C := RX3) (T := TX3) (N := 29) hx hb hts hi3 tyX3 tyX3_ok nmX3 hown hK hP hD hS 0 rfl rfl 0 (by decide) k75 (fun _ h9 => h9) rfl (by decide +kernel) rfl rfl (Nat.le_of_ble_eq_true rfl) rfl dX3_chest_94 (fun H locs hP hD hS => ?_)
            refine lv_aload_n hx hb dX3_chest_97 rfl (lv_at hl 0 rfl) ?_
            refine lv_dup hx hb dX3_chest_98 rfl ?_
            refine va_get (D := D) (ci := 3) (v := .int (nI (s 1))) (C := RX3) (T := TX3) (N := 29) hx hb hts hi3 hown hK hP 0 rfl rfl 1 (by decide) k79 (fun _ h9 => h9) rfl dX3_chest_99 ?_
            refine lv_iconst (v := nI 1) hx hb dX3_chest_102 (by decide) ?_
            refine zx_iadd hx hb dX3_chest_103 ?_
            refine zx_put (D := D) (ci := 3) (ty := .int) (v := .int (nI ((s 1) + 1))) (ws' := (zm_w cI cB r) ((zx_up (zx_up (zx_up s 3 (a 15 9 - 48)) 0 1) 1 ((s 1) + 1)), b, y, h)) (C := RX3) (T := TX3) (N := 29) hx hb hts hi3 tyX3 tyX3_ok nmX3 hown hK hP hD hS 0 rfl rfl 1 (by decide) k79 (fun _ h9 => h9) rfl (by decide +kernel) rfl rfl (Nat.le_of_ble_eq_true rfl) rfl dX3_chest_104 (fun H locs hP hD hS => ?_)
            refine lv_aload_n hx hb dX3_chest_107 rfl (lv_at hl 0 rfl) ?_
            refine lv_iconst (v := nI 0) hx hb dX3_chest_108 (by decide) ?_
            refine zx_put (D := D) (ci := 3) (ty := .int) (v := .int (nI 0)) (ws' := (zm_w cI cB r) ((zx_up (zx_up (zx_up (zx_up s 3 (a 15 9 - 48)) 0 1) 1 ((s 1) + 1)) 5 0), b, y, h)) (C := RX3) (T := TX3) (N := 29) hx hb hts hi3 tyX3 tyX3_ok nmX3 hown hK hP hD hS 0 rfl rfl 5 (by decide) k82 (fun _ h9 => h9) rfl (by decide +kernel) rfl rfl (Nat.le_of_ble_eq_true rfl) rfl dX3_chest_109 (fun H locs hP hD hS => ?_)
            refine lv_aload_n hx hb dX3_chest_112 rfl (lv_at hl 0 rfl) ?_
            refine lv_iconst (v := nI 0) hx hb dX3_chest_113 (by decide) ?_
            refine zx_put (D := D) (ci := 3) (ty := .int) (v := .int (nI 0)) (ws' := (zm_w cI cB r) ((zx_up (zx_up (zx_up (zx_up (zx_up s 3 (a 15 9 - 48)) 0 1) 1 ((s 1) + 1)) 5 0) 9 0), b, y, h)) (C := RX3) (T := TX3) (N := 29) hx hb hts hi3 tyX3 tyX3_ok nmX3 hown hK hP hD hS 0 rfl rfl 9 (by decide) k85 (fun _ h9 => h9) rfl (by decide +kernel) rfl rfl (Nat.le_of_ble_eq_true rfl) rfl dX3_chest_114 (fun H locs hP hD hS => ?_)
            refine lv_aload_n hx hb dX3_chest_117 rfl (lv_at hl 0 rfl) ?_
            refine lv_iconst (v := nI 0) hx hb dX3_chest_118 (by decide) ?_
            refine zx_put (D := D) (ci := 3) (ty := .int) (v := .int (nI 0)) (ws' := (zm_w cI cB r) ((zx_up (zx_up (zx_up (zx_up (zx_up (zx_up s 3 (a 15 9 - 48)) 0 1) 1 ((s 1) + 1)) 5 0) 9 0) 14 0), b, y, h)) (C := RX3) (T := TX3) (N := 29) hx hb hts hi3 tyX3 tyX3_ok nmX3 hown hK hP hD hS 0 rfl rfl 14 (by decide) k60 (fun _ h9 => h9) rfl (by decide +kernel) rfl rfl (Nat.le_of_ble_eq_true rfl) rfl dX3_chest_119 (fun H locs hP hD hS => ?_)
            refine lv_iload_n hx hb dX3_chest_122 rfl (lv_at hl 1 rfl) ?_
            exact hret _ _ _ _ _ _ hP hD hS dX3_chest_123 (zd_inr (zd_chestT c_6 (by omega)) ⟨by rw [show d = 9 by omega], b, y, rfl, fun j hj => gy j (by omega), fun j hj => g4 j (by omega), gb⟩)
          · refine lv_aload_n hx hb dX3_chest_33 rfl (lv_at hl 0 rfl) ?_
            refine va_get (D := D) (ci := 3) (v := .ref (r 2)) (C := RX3) (T := TX3) (N := 29) hx hb hts hi3 hown hK hP 0 rfl rfl 2 (by decide) k7 (fun _ h9 => h9) rfl dX3_chest_34 ?_
            refine lv_iload_n hx hb dX3_chest_37 rfl (lv_at hl 2 rfl) ?_
            refine lv_aload_n hx hb dX3_chest_38 rfl (lv_at hl 0 rfl) ?_
            refine va_get (D := D) (ci := 3) (v := .ref (r 15)) (C := RX3) (T := TX3) (N := 29) hx hb hts hi3 hown hK hP 0 rfl rfl 15 (by decide) k34 (fun _ h9 => h9) rfl dX3_chest_39 ?_
            refine lv_iload_n hx hb dX3_chest_42 rfl (lv_at hl 2 rfl) ?_
            refine zx_bld (f := b 15) (n := 12) hx hb hK hP 9 1 rfl rfl (by omega) (by decide) dX3_chest_43 ?_
            refine zx_S (As := [.int (nI ((b 15) d))]) (rest := [.int (nI d), .ref (r 2)]) cf (c_X3_delayBy l D ((b 15) d) (by rw [gb 15 (by decide)]; exact iG d (by omega))) (va_cwS 1 hts gX3_chest_X3_delayBy rfl rfl rfl hd_X3_delayBy ⟨Nat.le_of_ble_eq_true rfl, Nat.le_of_ble_eq_true rfl⟩) hK hN hP hS hA rfl hl.1 rfl (Nat.le_of_ble_eq_true rfl) dX3_chest_44 ⟨Nat.zero_le _, Nat.zero_le _⟩ (fun H locs hP hS => ?_)
            refine zx_astI (f := y) (n := 9) (ws' := (zm_w cI cB r) (s, b, (zx_up y d (zp_dl ((b 15) d))), h)) hx hb hK hP hD hS 1 0 rfl rfl (by omega) (by decide) rfl dX3_chest_47 (fun H locs hP hD hS => ?_)
            refine lv_aload_n hx hb dX3_chest_48 rfl (lv_at hl 0 rfl) ?_
            refine va_get (D := D) (ci := 3) (v := .ref (r 4)) (C := RX3) (T := TX3) (N := 29) hx hb hts hi3 hown hK hP 0 rfl rfl 4 (by decide) k13 (fun _ h9 => h9) rfl dX3_chest_49 ?_
            refine lv_iload_n hx hb dX3_chest_52 rfl (lv_at hl 2 rfl) ?_
            refine lv_iconst (v := nI 0) hx hb dX3_chest_53 (by decide) ?_
            refine zx_ast (f := b 4) (n := 9) (ws' := (zm_w cI cB r) (s, (zx_up b 4 (zx_up (b 4) d 0)), (zx_up y d (zp_dl ((b 15) d))), h)) hx hb hK hP hD hS 2 0 rfl rfl (by omega) (by decide) rfl dX3_chest_54 (fun H locs hP hD hS => ?_)
            refine lv_iload_n hx hb dX3_chest_55 rfl (lv_at hl 1 rfl) ?_
            refine lv_aload_n hx hb dX3_chest_56 rfl (lv_at hl 0 rfl) ?_
            refine va_get (D := D) (ci := 3) (v := .ref (r 2)) (C := RX3) (T := TX3) (N := 29) hx hb hts hi3 hown hK hP 0 rfl rfl 2 (by decide) k7 (fun _ h9 => h9) rfl dX3_chest_57 ?_
            refine lv_iload_n hx hb dX3_chest_60 rfl (lv_at hl 2 rfl) ?_
            refine zx_aldI (f := (zx_up y d (zp_dl ((b 15) d)))) (n := 9) hx hb hK hP 1 0 rfl rfl (by omega) (by decide) dX3_chest_61 ?_
            refine zx_topi (y := zx_i (zp_dl (a 15 d))) ((by rw [zx_up_eq, gb 15 (by decide)])) ?_
            refine lv_if_ne (tgt := 69) hx hb dX3_chest_62 (by decide) (fun c_62 => ?_) (fun c_62 => ?_)
            · refine lv_iconst (v := nI 1) hx hb dX3_chest_69 (by decide) ?_
              refine zx_iadd hx hb dX3_chest_70 ?_
              refine lv_istore_n (lv' := [(1, .int (nI ((zp_cnt (fun j => !decide (zp_dl (a 15 j) = 0)) d) + 1))), (0, .ref (r 0)), (2, .int (nI d))]) hx hb dX3_chest_71 rfl hl (by decide) rfl (fun ls hl => ?_)
              refine lv_iinc (v := nI (d + 1)) (lv' := [(2, .int (nI (d + 1))), (1, .int (nI ((zp_cnt (fun j => !decide (zp_dl (a 15 j) = 0)) d) + 1))), (0, .ref (r 0))]) hx hb dX3_chest_72 hl (k := 2) rfl (zx_inc _ _) (by decide) rfl (fun ls hl => ?_)
              refine lv_goto (tgt := 27) hx hb dX3_chest_75 (by decide) ?_
              exact ih_27 (d + 1) (zx_up b 4 (zx_up (b 4) d 0)) (zx_up y d (zp_dl ((b 15) d))) (by omega) (by omega) (zp_upN (by rw [gb 15 (by decide)]) gy) (by rw [zx_up_eq]; exact zp_upN rfl g4) (fun k hk => (zx_up_ne _ _ hk).trans (gb k hk)) _ (zp_cntT (f := (fun j => !decide (zp_dl (a 15 j) = 0))) (by simpa using fun q9 => c_62 (congrArg zx_i q9))) _ rfl _ _ hP hD hS ls (lv_sub hl [2, 1, 0] rfl)
            · refine lv_iconst (v := nI 0) hx hb dX3_chest_65 (by decide) ?_
              refine lv_goto (tgt := 70) hx hb dX3_chest_66 (by decide) ?_
              refine zx_iadd hx hb dX3_chest_70 ?_
              refine lv_istore_n (lv' := [(1, .int (nI ((zp_cnt (fun j => !decide (zp_dl (a 15 j) = 0)) d) + 0))), (0, .ref (r 0)), (2, .int (nI d))]) hx hb dX3_chest_71 rfl hl (by decide) rfl (fun ls hl => ?_)
              refine lv_iinc (v := nI (d + 1)) (lv' := [(2, .int (nI (d + 1))), (1, .int (nI ((zp_cnt (fun j => !decide (zp_dl (a 15 j) = 0)) d) + 0))), (0, .ref (r 0))]) hx hb dX3_chest_72 hl (k := 2) rfl (zx_inc _ _) (by decide) rfl (fun ls hl => ?_)
              refine lv_goto (tgt := 27) hx hb dX3_chest_75 (by decide) ?_
              exact ih_27 (d + 1) (zx_up b 4 (zx_up (b 4) d 0)) (zx_up y d (zp_dl ((b 15) d))) (by omega) (by omega) (zp_upN (by rw [gb 15 (by decide)]) gy) (by rw [zx_up_eq]; exact zp_upN rfl g4) (fun k hk => (zx_up_ne _ _ hk).trans (gb k hk)) _ (zp_cntF (f := (fun j => !decide (zp_dl (a 15 j) = 0))) (by simpa using (zx_dl0 _ (iG d (by omega))).mp c_62)) _ rfl _ _ hP hD hS ls (lv_sub hl [2, 1, 0] rfl)
      exact lp_27 _ 0 a z (Nat.lt_succ_self _) (by decide) (fun j hj => absurd hj (Nat.not_lt_zero j)) (fun j hj => absurd hj (Nat.not_lt_zero j)) (fun k _ => rfl) _ rfl _ rfl _ _ hP hD hS ls (lv_sub hl [2, 1, 0] rfl)
    · refine lv_bipush (v := (-103)) hx hb dX3_chest_20 (by decide) ?_
      exact hret _ _ _ _ _ _ hP hD hS dX3_chest_22 (zd_inl (zd_chestF (Or.inr (fun q9 => c_17 (q9.trans c_6.symm)))) ⟨rfl, rfl⟩)
set_option maxHeartbeats 4000000 in
set_option maxRecDepth 100000 in
theorem c_X3_putBy (l : Launch) (D : va_G) (cI cB : ClassId) (r : Nat → Nat) (s : Nat → Nat) (a : Nat → Nat → Nat) (z : Nat → Int) (h : Int64) (d w : Nat) (hI : zm_I s a z) (hd : d < 9) (hw : w < 128) : zx_C zx_ei l D (zm_t cI cB) (zm_w cI cB r) yX3_putBy wsX3_putBy rmX3_putBy [.ref (r 0), .int (nI d), .int (nI w)] (s, a, z, h) (fun v u' => v = nI (zp_put (s 5) (a 6) (a 7) (a 8) d w) ∧ u' = (s, a, z, h)) := by
  refine zx_of_i (cc := cX3_putBy) (maxL := 6) (by decide) rfl (Nat.le_of_ble_eq_true rfl) ?_
  intro p e st m args below meth c A Q H cf hK hN hP hD hS hA hret ls hl
  obtain ⟨hx, hb, hml, hown, hts⟩ := id cf
  have hi3 : ∀ w ∈ wsX30, w ∈ wsX3_putBy := fun w h => List.mem_cons_of_mem _ (List.mem_append_right _ h)
  have k82 := hts (.fieldLink RX3 82 "NineDrawersModel" "people" "I") (List.mem_of_getElem? (i := 1) (by decide +kernel))
  have k19 := hts (.fieldLink RX3 19 "NineDrawersModel" "drawerOf" "[I") (List.mem_of_getElem? (i := 2) (by decide +kernel))
  have k16 := hts (.fieldLink RX3 16 "NineDrawersModel" "kindOf" "[I") (List.mem_of_getElem? (i := 3) (by decide +kernel))
  have k22 := hts (.fieldLink RX3 22 "NineDrawersModel" "dayOf" "[I") (List.mem_of_getElem? (i := 4) (by decide +kernel))
  have hl : lv_has ls 6 [(0, .ref (r 0)), (1, .int (nI d)), (2, .int (nI w))] := hl
  have hP : va_P D vwCl ((zm_w cI cB r) (s, a, z, h)) H := hP
  have hD : va_D A ((zm_w cI cB r) (s, a, z, h)) := hD
  obtain ⟨⟨i0, i1, i3, i5, i9, i13, i14⟩, ⟨i17, i18, i19, i20, i21⟩, iP, iF, iL, iG, iZ, jL, jP, jF⟩ := id hI
  refine lv_iconst (v := nI 0) hx hb dX3_putBy_0 (by decide) ?_
  refine lv_istore_n (lv' := [(3, .int (nI 0)), (0, .ref (r 0)), (1, .int (nI d)), (2, .int (nI w))]) hx hb dX3_putBy_1 rfl hl (by decide) rfl (fun ls hl => ?_)
  refine lv_iconst (v := nI 0) hx hb dX3_putBy_2 (by decide) ?_
  refine lv_istore (lv' := [(4, .int (nI 0)), (3, .int (nI 0)), (0, .ref (r 0)), (1, .int (nI d)), (2, .int (nI w))]) hx hb dX3_putBy_3 hl (by decide) rfl (fun ls hl => ?_)
  have lp_5 : ∀ (n_ : Nat) (k : Nat) (b : Nat), s 5 - k < n_ → (k ≤ s 5) → (∀ i, b.testBit i = (decide (i < 7) && zp_pt k (a 6) (a 7) (a 8) d i (w.testBit i))) → ∀ x1 : Int32, x1 = nI d → ∀ x2 : Int32, x2 = nI w → ∀ x3 : Int32, x3 = nI b → ∀ x4 : Int32, x4 = nI k → ∀ (H : Heap) (locs : List Loc), va_P D vwCl ((zm_w cI cB r) (s, a, z, h)) H → va_D A ((zm_w cI cB r) (s, a, z, h)) → va_S A st.heap H locs → ∀ ls : Array Slot, lv_has ls 6 [(0, .ref (r 0)), (1, .int x1), (2, .int x2), (3, .int x3), (4, .int x4)] → W p l e rmX3_putBy st m args below meth c H locs 0 0 Q (F0 m 5 ls []) := by
    intro n_
    induction n_ with
    | zero => intros; omega
    | succ n_ ih_5 =>
      intro k b hmu_5 hk9 gb
      intro x1 ex1; subst ex1
      intro x2 ex2; subst ex2
      intro x3 ex3; subst ex3
      intro x4 ex4; subst ex4
      intro H locs hP hD hS ls hl
      have hl : lv_has ls 6 [(0, .ref (r 0)), (1, .int (nI d)), (2, .int (nI w)), (3, .int (nI b)), (4, .int (nI k))] := hl
      refine lv_iload hx hb dX3_putBy_5 (lv_at hl 4 rfl) ?_
      refine lv_aload_n hx hb dX3_putBy_7 rfl (lv_at hl 0 rfl) ?_
      refine va_get (D := D) (ci := 3) (v := .int (nI (s 5))) (C := RX3) (T := TX3) (N := 29) hx hb hts hi3 hown hK hP 0 rfl rfl 5 (by decide) k82 (fun _ h9 => h9) rfl dX3_putBy_8 ?_
      refine zx_icmp_ge hx hb (tgt := 86) (by omega) (by omega) dX3_putBy_11 (by decide) (fun c_11 => ?_) (fun c_11 => ?_)
      · refine lv_iload_n hx hb dX3_putBy_86 rfl (lv_at hl 3 rfl) ?_
        exact hret _ _ _ _ _ _ hP hD hS dX3_putBy_87 ⟨congrArg nI (zp_put_eq (by omega) gb), rfl⟩
      · refine lv_iconst (v := nI 0) hx hb dX3_putBy_14 (by decide) ?_
        refine lv_istore (lv' := [(5, .int (nI 0)), (0, .ref (r 0)), (1, .int (nI d)), (2, .int (nI w)), (3, .int (nI b)), (4, .int (nI k))]) hx hb dX3_putBy_15 hl (by decide) rfl (fun ls hl => ?_)
        have lp_17 : ∀ (n_ : Nat) (j : Nat) (b2 : Nat), 7 - j < n_ → (j ≤ 7) → (∀ i, b2.testBit i = ((decide (i < 7) && zp_pt k (a 6) (a 7) (a 8) d i (w.testBit i)) || (decide (i < j) && (decide (a 7 k = d) && zp_puts (a 6 k) (a 8 k) i (w.testBit i))))) → ∀ x1 : Int32, x1 = nI d → ∀ x2 : Int32, x2 = nI w → ∀ x3 : Int32, x3 = nI b2 → ∀ x4 : Int32, x4 = nI k → ∀ x5 : Int32, x5 = nI j → ∀ (H : Heap) (locs : List Loc), va_P D vwCl ((zm_w cI cB r) (s, a, z, h)) H → va_D A ((zm_w cI cB r) (s, a, z, h)) → va_S A st.heap H locs → ∀ ls : Array Slot, lv_has ls 6 [(0, .ref (r 0)), (1, .int x1), (2, .int x2), (3, .int x3), (4, .int x4), (5, .int x5)] → W p l e rmX3_putBy st m args below meth c H locs 0 0 Q (F0 m 17 ls []) := by
          intro n_
          induction n_ with
          | zero => intros; omega
          | succ n_ ih_17 =>
            intro j b2 hmu_17 hj9 g2
            intro x1 ex1; subst ex1
            intro x2 ex2; subst ex2
            intro x3 ex3; subst ex3
            intro x4 ex4; subst ex4
            intro x5 ex5; subst ex5
            intro H locs hP hD hS ls hl
            have hl : lv_has ls 6 [(0, .ref (r 0)), (1, .int (nI d)), (2, .int (nI w)), (3, .int (nI b2)), (4, .int (nI k)), (5, .int (nI j))] := hl
            refine lv_iload hx hb dX3_putBy_17 (lv_at hl 5 rfl) ?_
            refine lv_bipush (v := nI 7) hx hb dX3_putBy_19 (by decide) ?_
            refine zx_icmp_ge hx hb (tgt := 80) (by omega) (by omega) dX3_putBy_21 (by decide) (fun c_21 => ?_) (fun c_21 => ?_)
            · refine lv_iinc (v := nI (k + 1)) (lv' := [(4, .int (nI (k + 1))), (0, .ref (r 0)), (1, .int (nI d)), (2, .int (nI w)), (3, .int (nI b2)), (5, .int (nI j))]) hx hb dX3_putBy_80 hl (k := 4) rfl (zx_inc _ _) (by decide) rfl (fun ls hl => ?_)
              refine lv_goto (tgt := 5) hx hb dX3_putBy_83 (by decide) ?_
              exact ih_5 (k + 1) b2 (by omega) (by omega) (fun i => (g2 i).trans (zp_pt_end (by omega))) _ rfl _ rfl _ rfl _ rfl _ _ hP hD hS ls (lv_sub hl [1, 2, 3, 4, 0] rfl)
            · refine lv_aload_n hx hb dX3_putBy_24 rfl (lv_at hl 0 rfl) ?_
              refine va_get (D := D) (ci := 3) (v := .ref (r 7)) (C := RX3) (T := TX3) (N := 29) hx hb hts hi3 hown hK hP 0 rfl rfl 7 (by decide) k19 (fun _ h9 => h9) rfl dX3_putBy_25 ?_
              refine lv_iload hx hb dX3_putBy_28 (lv_at hl 4 rfl) ?_
              refine zx_ald (f := a 7) (n := 6) hx hb hK hP 4 0 rfl rfl (by omega) (by decide) dX3_putBy_30 ?_
              refine lv_iload_n hx hb dX3_putBy_31 rfl (lv_at hl 1 rfl) ?_
              refine zx_icmp_ne hx hb (tgt := 80) (by have := (iP k (by omega)).2.1; omega) (by omega) dX3_putBy_32 (by decide) (fun c_32 => ?_) (fun c_32 => ?_)
              · refine lv_iinc (v := nI (k + 1)) (lv' := [(4, .int (nI (k + 1))), (0, .ref (r 0)), (1, .int (nI d)), (2, .int (nI w)), (3, .int (nI b2)), (5, .int (nI j))]) hx hb dX3_putBy_80 hl (k := 4) rfl (zx_inc _ _) (by decide) rfl (fun ls hl => ?_)
                refine lv_goto (tgt := 5) hx hb dX3_putBy_83 (by decide) ?_
                exact ih_5 (k + 1) b2 (by omega) (by omega) (fun i => (g2 i).trans (zp_pt_no c_32)) _ rfl _ rfl _ rfl _ rfl _ _ hP hD hS ls (lv_sub hl [1, 2, 3, 4, 0] rfl)
              · refine lv_iload_n hx hb dX3_putBy_35 rfl (lv_at hl 3 rfl) ?_
                refine lv_aload_n hx hb dX3_putBy_36 rfl (lv_at hl 0 rfl) ?_
                refine va_get (D := D) (ci := 3) (v := .ref (r 6)) (C := RX3) (T := TX3) (N := 29) hx hb hts hi3 hown hK hP 0 rfl rfl 6 (by decide) k16 (fun _ h9 => h9) rfl dX3_putBy_37 ?_
                refine lv_iload hx hb dX3_putBy_40 (lv_at hl 4 rfl) ?_
                refine zx_ald (f := a 6) (n := 6) hx hb hK hP 3 0 rfl rfl (by omega) (by decide) dX3_putBy_42 ?_
                refine lv_aload_n hx hb dX3_putBy_43 rfl (lv_at hl 0 rfl) ?_
                refine va_get (D := D) (ci := 3) (v := .ref (r 8)) (C := RX3) (T := TX3) (N := 29) hx hb hts hi3 hown hK hP 0 rfl rfl 8 (by decide) k22 (fun _ h9 => h9) rfl dX3_putBy_44 ?_
                refine lv_iload hx hb dX3_putBy_47 (lv_at hl 4 rfl) ?_
                refine zx_ald (f := a 8) (n := 6) hx hb hK hP 5 0 rfl rfl (by omega) (by decide) dX3_putBy_49 ?_
                refine lv_iload hx hb dX3_putBy_50 (lv_at hl 5 rfl) ?_
                refine lv_iload_n hx hb dX3_putBy_52 rfl (lv_at hl 2 rfl) ?_
                refine lv_iload hx hb dX3_putBy_53 (lv_at hl 5 rfl) ?_
                refine zx_S (As := [.int (nI w), .int (nI j)]) (rest := [.int (nI j), .int (nI ((a 8) k)), .int (nI ((a 6) k)), .int (nI b2)]) cf (c_X3_has l D w j (by omega) (by omega)) (va_cwS 2 hts gX3_putBy_X3_has rfl rfl rfl hd_X3_has ⟨Nat.le_of_ble_eq_true rfl, Nat.le_of_ble_eq_true rfl⟩) hK hN hP hS hA rfl hl.1 rfl (Nat.le_of_ble_eq_true rfl) dX3_putBy_55 ⟨Nat.zero_le _, Nat.zero_le _⟩ (fun H locs hP hS => ?_)
                refine zx_S (As := [.int (nI ((a 6) k)), .int (nI ((a 8) k)), .int (nI j), .int (zx_b (Nat.testBit w j))]) (rest := [.int (nI b2)]) cf (c_X3_puts l D ((a 6) k) ((a 8) k) j (Nat.testBit w j) (by have := (iP k (by omega)).1; omega) (by have := (iP k (by omega)).2.2; omega) (by omega)) (va_cwS 4 hts gX3_putBy_X3_puts rfl rfl rfl hd_X3_puts ⟨Nat.le_of_ble_eq_true rfl, Nat.le_of_ble_eq_true rfl⟩) hK hN hP hS hA rfl hl.1 rfl (Nat.le_of_ble_eq_true rfl) dX3_putBy_58 ⟨Nat.zero_le _, Nat.zero_le _⟩ (fun H locs hP hS => ?_)
                refine zx_bf_eq hx hb (tgt := 71) dX3_putBy_61 (by decide) (fun c_61 => ?_) (fun c_61 => ?_)
                · refine lv_iconst (v := nI 0) hx hb dX3_putBy_71 (by decide) ?_
                  refine zx_ior hx hb dX3_putBy_72 ?_
                  refine lv_istore_n (lv' := [(3, .int (nI (b2 ||| 0))), (0, .ref (r 0)), (1, .int (nI d)), (2, .int (nI w)), (4, .int (nI k)), (5, .int (nI j))]) hx hb dX3_putBy_73 rfl hl (by decide) rfl (fun ls hl => ?_)
                  refine lv_iinc (v := nI (j + 1)) (lv' := [(5, .int (nI (j + 1))), (3, .int (nI (b2 ||| 0))), (0, .ref (r 0)), (1, .int (nI d)), (2, .int (nI w)), (4, .int (nI k))]) hx hb dX3_putBy_74 hl (k := 5) rfl (zx_inc _ _) (by decide) rfl (fun ls hl => ?_)
                  refine lv_goto (tgt := 17) hx hb dX3_putBy_77 (by decide) ?_
                  exact ih_17 (j + 1) (b2 ||| 0) (by omega) (by omega) (zp_putF g2 c_61) _ rfl _ rfl _ rfl _ rfl _ rfl _ _ hP hD hS ls (lv_sub hl [2, 3, 4, 1, 5, 0] rfl)
                · refine lv_iconst (v := nI 1) hx hb dX3_putBy_64 (by decide) ?_
                  refine lv_iload hx hb dX3_putBy_65 (lv_at hl 5 rfl) ?_
                  refine zx_ishl1 hx hb (by omega) dX3_putBy_67 ?_
                  refine lv_goto (tgt := 72) hx hb dX3_putBy_68 (by decide) ?_
                  refine zx_ior hx hb dX3_putBy_72 ?_
                  refine lv_istore_n (lv' := [(3, .int (nI (b2 ||| (2 ^ j)))), (0, .ref (r 0)), (1, .int (nI d)), (2, .int (nI w)), (4, .int (nI k)), (5, .int (nI j))]) hx hb dX3_putBy_73 rfl hl (by decide) rfl (fun ls hl => ?_)
                  refine lv_iinc (v := nI (j + 1)) (lv' := [(5, .int (nI (j + 1))), (3, .int (nI (b2 ||| (2 ^ j)))), (0, .ref (r 0)), (1, .int (nI d)), (2, .int (nI w)), (4, .int (nI k))]) hx hb dX3_putBy_74 hl (k := 5) rfl (zx_inc _ _) (by decide) rfl (fun ls hl => ?_)
                  refine lv_goto (tgt := 17) hx hb dX3_putBy_77 (by decide) ?_
                  exact ih_17 (j + 1) (b2 ||| (2 ^ j)) (by omega) (by omega) (zp_putT g2 c_21 c_32 c_61) _ rfl _ rfl _ rfl _ rfl _ rfl _ _ hP hD hS ls (lv_sub hl [2, 3, 4, 1, 5, 0] rfl)
        exact lp_17 _ 0 b (Nat.lt_succ_self _) (Nat.zero_le _) (fun i => by rw [gb i]; simp) _ rfl _ rfl _ rfl _ rfl _ rfl _ _ hP hD hS ls (lv_sub hl [1, 2, 3, 4, 5, 0] rfl)
  exact lp_5 _ 0 0 (Nat.lt_succ_self _) (Nat.zero_le _) (fun i => by simp [zp_pt, zp_any]) _ rfl _ rfl _ rfl _ rfl _ _ hP hD hS ls (lv_sub hl [2, 3, 4, 1, 0] rfl)
end
section
set_option maxHeartbeats 4000000 in
set_option maxRecDepth 100000 in
theorem c_X3_firstWrong_p (l : Launch) (D : va_G) (cI cB : ClassId) (r : Nat → Nat) (s : Nat → Nat) (a : Nat → Nat → Nat) (z : Nat → Int) (h : Int64) (d w k q : Nat) (hI : zm_I s a z) (hd : d < 9) (hw : w < 128) (hq : q < 128) (hk : k ≤ 4) : zx_C zx_ei l D (zm_t cI cB) (zm_w cI cB r) yX3_firstWrong wsX3_firstWrong rmX3_firstWrong [.ref (r 0), .int (nI d), .int (nI w), .int (nI k), .int (nI q)] (s, a, z, h) (fun v u' => v = nI (zp_fw (zm_f s a d ((k : Int)) q) w) ∧ u' = (s, a, z, h)) := by
  refine zx_of_i (cc := cX3_firstWrong) (maxL := 8) (by decide) rfl (Nat.le_of_ble_eq_true rfl) ?_
  intro p e st m args below meth c A Q H cf hK hN hP hD hS hA hret ls hl
  obtain ⟨hx, hb, hml, hown, hts⟩ := id cf
  have hl : lv_has ls 8 [(0, .ref (r 0)), (1, .int (nI d)), (2, .int (nI w)), (3, .int (nI k)), (4, .int (nI q))] := hl
  have hP : va_P D vwCl ((zm_w cI cB r) (s, a, z, h)) H := hP
  have hD : va_D A ((zm_w cI cB r) (s, a, z, h)) := hD
  obtain ⟨⟨i0, i1, i3, i5, i9, i13, i14⟩, ⟨i17, i18, i19, i20, i21⟩, iP, iF, iL, iG, iZ, jL, jP, jF⟩ := id hI
  refine lv_aload_n hx hb dX3_firstWrong_0 rfl (lv_at hl 0 rfl) ?_
  refine lv_iload_n hx hb dX3_firstWrong_1 rfl (lv_at hl 1 rfl) ?_
  refine lv_iload_n hx hb dX3_firstWrong_2 rfl (lv_at hl 2 rfl) ?_
  refine zx_V_i (As := [.int (nI d), .int (nI w)]) (rest := []) cf (c_X3_putBy l D cI cB r s a z h d w hI (by omega) (by omega)) (cwV 2 hts gX3_firstWrong_X3_putBy rfl rfl rfl ⟨rfl, hd_X3_putBy⟩ ⟨Nat.le_of_ble_eq_true rfl, Nat.le_of_ble_eq_true rfl⟩) hK hN hP hD hS hA 0 rfl rfl rfl hl.1 rfl (Nat.le_of_ble_eq_true rfl) dX3_firstWrong_3 ⟨Nat.zero_le _, Nat.zero_le _⟩ (fun v_3 u_3 H locs hq hP hD hS => ?_)
  obtain ⟨rfl, rfl⟩ := hq
  refine lv_iload hx hb dX3_firstWrong_6 (lv_at hl 4 rfl) ?_
  refine zx_ior hx hb dX3_firstWrong_8 ?_
  have hm0 : zp_put (s 5) (a 6) (a 7) (a 8) d w ||| q < 128 := Nat.or_lt_two_pow (n := 7) (zp_put_lt _ _ _ _ _ _) hq
  obtain ⟨mq9, em0⟩ : ∃ mq9, mq9 = zp_put (s 5) (a 6) (a 7) (a 8) d w ||| q := ⟨_, rfl⟩
  rw [← em0] at hm0 ⊢
  refine lv_istore (lv' := [(5, .int (nI mq9)), (0, .ref (r 0)), (1, .int (nI d)), (2, .int (nI w)), (3, .int (nI k)), (4, .int (nI q))]) hx hb dX3_firstWrong_9 hl (by decide) rfl (fun ls hl => ?_)
  refine lv_iload_n hx hb dX3_firstWrong_11 rfl (lv_at hl 4 rfl) ?_
  refine lv_if_lt (tgt := 22) hx hb dX3_firstWrong_12 (by decide) (fun c_12 => ?_) (fun c_12 => ?_)
  · exact absurd c_12 (nI_pos (by omega))
  · refine lv_iload hx hb dX3_firstWrong_15 (lv_at hl 0 rfl) ?_
    refine lv_iload_n hx hb dX3_firstWrong_17 rfl (lv_at hl 4 rfl) ?_
    refine zx_ishl hx hb (by omega) (zx_m4 hm0 hk) dX3_firstWrong_18 ?_
    refine lv_goto (tgt := 27) hx hb dX3_firstWrong_19 (by decide) ?_
    refine lv_bipush (v := nI 127) hx hb dX3_firstWrong_27 (by decide) ?_
    refine zx_iand hx hb dX3_firstWrong_29 ?_
    obtain ⟨mb9, emb⟩ : ∃ mb9, mb9 = mq9 * 2 ^ k &&& 127 := ⟨_, rfl⟩
    rw [← emb]
    have hmb : mb9 < 2147483648 := by rw [emb]; exact zx_a127 _
    have hM : zm_f s a d ((k : Int)) q w = mb9 := by rw [emb]; unfold zm_f; rw [← em0]; exact zp_sh_p
    refine lv_istore (lv' := [(6, .int (nI mb9)), (5, .int (nI mq9)), (0, .ref (r 0)), (1, .int (nI d)), (2, .int (nI w)), (3, .int (nI k)), (4, .int (nI q))]) hx hb dX3_firstWrong_30 hl (by decide) rfl (fun ls hl => ?_)
    refine lv_iconst (v := nI 0) hx hb dX3_firstWrong_32 (by decide) ?_
    refine lv_istore (lv' := [(7, .int (nI 0)), (6, .int (nI mb9)), (5, .int (nI mq9)), (0, .ref (r 0)), (1, .int (nI d)), (2, .int (nI w)), (3, .int (nI k)), (4, .int (nI q))]) hx hb dX3_firstWrong_33 hl (by decide) rfl (fun ls hl => ?_)
    have lp_35 : ∀ (n_ : Nat) (j : Nat), 7 - j < n_ → (j ≤ 7) → (∀ i, i < j → w.testBit i = mb9.testBit i) → ∀ x2 : Int32, x2 = nI w → ∀ x6 : Int32, x6 = nI mb9 → ∀ x7 : Int32, x7 = nI j → ∀ (H : Heap) (locs : List Loc), va_P D vwCl ((zm_w cI cB r) (s, a, z, h)) H → va_D A ((zm_w cI cB r) (s, a, z, h)) → va_S A st.heap H locs → ∀ ls : Array Slot, lv_has ls 8 [(2, .int x2), (6, .int x6), (7, .int x7)] → W p l e rmX3_firstWrong st m args below meth c H locs 0 0 Q (F0 m 35 ls []) := by
      intro n_
      induction n_ with
      | zero => intros; omega
      | succ n_ ih_35 =>
        intro j hmu_35 hj9 gj
        intro x2 ex2; subst ex2
        intro x6 ex6; subst ex6
        intro x7 ex7; subst ex7
        intro H locs hP hD hS ls hl
        have hl : lv_has ls 8 [(2, .int (nI w)), (6, .int (nI mb9)), (7, .int (nI j))] := hl
        refine lv_iload hx hb dX3_firstWrong_35 (lv_at hl 2 rfl) ?_
        refine lv_bipush (v := nI 7) hx hb dX3_firstWrong_37 (by decide) ?_
        refine zx_icmp_ge hx hb (tgt := 64) (by omega) (by omega) dX3_firstWrong_39 (by decide) (fun c_39 => ?_) (fun c_39 => ?_)
        · refine lv_iload hx hb dX3_firstWrong_64 (lv_at hl 2 rfl) ?_
          exact hret _ _ _ _ _ _ hP hD hS dX3_firstWrong_66 ⟨zp_fw_eq hM hj9 gj (Or.inl (by omega)), rfl⟩
        · refine lv_iload_n hx hb dX3_firstWrong_42 rfl (lv_at hl 0 rfl) ?_
          refine lv_iload hx hb dX3_firstWrong_43 (lv_at hl 2 rfl) ?_
          refine zx_S (As := [.int (nI w), .int (nI j)]) (rest := []) cf (c_X3_has l D w j (by omega) (by omega)) (va_cwS 2 hts gX3_firstWrong_X3_has rfl rfl rfl hd_X3_has ⟨Nat.le_of_ble_eq_true rfl, Nat.le_of_ble_eq_true rfl⟩) hK hN hP hS hA rfl hl.1 rfl (Nat.le_of_ble_eq_true rfl) dX3_firstWrong_45 ⟨Nat.zero_le _, Nat.zero_le _⟩ (fun H locs hP hS => ?_)
          refine lv_iload hx hb dX3_firstWrong_48 (lv_at hl 1 rfl) ?_
          refine lv_iload hx hb dX3_firstWrong_50 (lv_at hl 2 rfl) ?_
          refine zx_S (As := [.int (nI mb9), .int (nI j)]) (rest := [.int (zx_b (Nat.testBit w j))]) cf (c_X3_has l D mb9 j hmb (by omega)) (va_cwS 2 hts gX3_firstWrong_X3_has rfl rfl rfl hd_X3_has ⟨Nat.le_of_ble_eq_true rfl, Nat.le_of_ble_eq_true rfl⟩) hK hN hP hS hA rfl hl.1 rfl (Nat.le_of_ble_eq_true rfl) dX3_firstWrong_52 ⟨Nat.zero_le _, Nat.zero_le _⟩ (fun H locs hP hS => ?_)
          refine zx_bc_ne hx hb (tgt := 64) dX3_firstWrong_55 (by decide) (fun c_55 => ?_) (fun c_55 => ?_)
          · refine lv_iload hx hb dX3_firstWrong_64 (lv_at hl 2 rfl) ?_
            exact hret _ _ _ _ _ _ hP hD hS dX3_firstWrong_66 ⟨zp_fw_eq hM hj9 gj (Or.inr c_55), rfl⟩
          · refine lv_iinc (v := nI (j + 1)) (lv' := [(7, .int (nI (j + 1))), (2, .int (nI w)), (6, .int (nI mb9))]) hx hb dX3_firstWrong_58 hl (k := 2) rfl (zx_inc _ _) (by decide) rfl (fun ls hl => ?_)
            refine lv_goto (tgt := 35) hx hb dX3_firstWrong_61 (by decide) ?_
            exact ih_35 (j + 1) (by omega) (by omega) (lt_s gj c_55) _ rfl _ rfl _ rfl _ _ hP hD hS ls (lv_sub hl [1, 2, 0] rfl)
    exact lp_35 _ 0 (Nat.lt_succ_self _) (Nat.zero_le _) (fun j hj => absurd hj (Nat.not_lt_zero j)) _ rfl _ rfl _ rfl _ _ hP hD hS ls (lv_sub hl [5, 1, 0] rfl)
set_option maxHeartbeats 4000000 in
set_option maxRecDepth 100000 in
theorem c_X3_firstWrong_n (l : Launch) (D : va_G) (cI cB : ClassId) (r : Nat → Nat) (s : Nat → Nat) (a : Nat → Nat → Nat) (z : Nat → Int) (h : Int64) (d w k q : Nat) (hI : zm_I s a z) (hd : d < 9) (hw : w < 128) (hq : q < 128) (h0 : 0 < k) (hk : k ≤ 3) : zx_C zx_ei l D (zm_t cI cB) (zm_w cI cB r) yX3_firstWrong wsX3_firstWrong rmX3_firstWrong [.ref (r 0), .int (nI d), .int (nI w), .int (-(nI k)), .int (nI q)] (s, a, z, h) (fun v u' => v = nI (zp_fw (zm_f s a d (-(k : Int)) q) w) ∧ u' = (s, a, z, h)) := by
  refine zx_of_i (cc := cX3_firstWrong) (maxL := 8) (by decide) rfl (Nat.le_of_ble_eq_true rfl) ?_
  intro p e st m args below meth c A Q H cf hK hN hP hD hS hA hret ls hl
  obtain ⟨hx, hb, hml, hown, hts⟩ := id cf
  have hl : lv_has ls 8 [(0, .ref (r 0)), (1, .int (nI d)), (2, .int (nI w)), (3, .int (-(nI k))), (4, .int (nI q))] := hl
  have hP : va_P D vwCl ((zm_w cI cB r) (s, a, z, h)) H := hP
  have hD : va_D A ((zm_w cI cB r) (s, a, z, h)) := hD
  obtain ⟨⟨i0, i1, i3, i5, i9, i13, i14⟩, ⟨i17, i18, i19, i20, i21⟩, iP, iF, iL, iG, iZ, jL, jP, jF⟩ := id hI
  refine lv_aload_n hx hb dX3_firstWrong_0 rfl (lv_at hl 0 rfl) ?_
  refine lv_iload_n hx hb dX3_firstWrong_1 rfl (lv_at hl 1 rfl) ?_
  refine lv_iload_n hx hb dX3_firstWrong_2 rfl (lv_at hl 2 rfl) ?_
  refine zx_V_i (As := [.int (nI d), .int (nI w)]) (rest := []) cf (c_X3_putBy l D cI cB r s a z h d w hI (by omega) (by omega)) (cwV 2 hts gX3_firstWrong_X3_putBy rfl rfl rfl ⟨rfl, hd_X3_putBy⟩ ⟨Nat.le_of_ble_eq_true rfl, Nat.le_of_ble_eq_true rfl⟩) hK hN hP hD hS hA 0 rfl rfl rfl hl.1 rfl (Nat.le_of_ble_eq_true rfl) dX3_firstWrong_3 ⟨Nat.zero_le _, Nat.zero_le _⟩ (fun v_3 u_3 H locs hq hP hD hS => ?_)
  obtain ⟨rfl, rfl⟩ := hq
  refine lv_iload hx hb dX3_firstWrong_6 (lv_at hl 4 rfl) ?_
  refine zx_ior hx hb dX3_firstWrong_8 ?_
  have hm0 : zp_put (s 5) (a 6) (a 7) (a 8) d w ||| q < 128 := Nat.or_lt_two_pow (n := 7) (zp_put_lt _ _ _ _ _ _) hq
  obtain ⟨mq9, em0⟩ : ∃ mq9, mq9 = zp_put (s 5) (a 6) (a 7) (a 8) d w ||| q := ⟨_, rfl⟩
  rw [← em0] at hm0 ⊢
  refine lv_istore (lv' := [(5, .int (nI mq9)), (0, .ref (r 0)), (1, .int (nI d)), (2, .int (nI w)), (3, .int (-(nI k))), (4, .int (nI q))]) hx hb dX3_firstWrong_9 hl (by decide) rfl (fun ls hl => ?_)
  refine lv_iload_n hx hb dX3_firstWrong_11 rfl (lv_at hl 4 rfl) ?_
  refine lv_if_lt (tgt := 22) hx hb dX3_firstWrong_12 (by decide) (fun c_12 => ?_) (fun c_12 => ?_)
  · refine lv_iload hx hb dX3_firstWrong_22 (lv_at hl 0 rfl) ?_
    refine lv_iload_n hx hb dX3_firstWrong_24 rfl (lv_at hl 4 rfl) ?_
    refine lv_ineg hx hb dX3_firstWrong_25 ?_
    refine zx_topi (y := nI k) (Int32.neg_neg) ?_
    refine zx_ishr hx hb (by omega) (by omega) dX3_firstWrong_26 ?_
    refine lv_bipush (v := nI 127) hx hb dX3_firstWrong_27 (by decide) ?_
    refine zx_iand hx hb dX3_firstWrong_29 ?_
    obtain ⟨mb9, emb⟩ : ∃ mb9, mb9 = mq9 / 2 ^ k &&& 127 := ⟨_, rfl⟩
    rw [← emb]
    have hmb : mb9 < 2147483648 := by rw [emb]; exact zx_a127 _
    have hM : zm_f s a d (-(k : Int)) q w = mb9 := by rw [emb]; unfold zm_f; rw [← em0]; exact zp_sh_n h0
    refine lv_istore (lv' := [(6, .int (nI mb9)), (5, .int (nI mq9)), (0, .ref (r 0)), (1, .int (nI d)), (2, .int (nI w)), (3, .int (-(nI k))), (4, .int (nI q))]) hx hb dX3_firstWrong_30 hl (by decide) rfl (fun ls hl => ?_)
    refine lv_iconst (v := nI 0) hx hb dX3_firstWrong_32 (by decide) ?_
    refine lv_istore (lv' := [(7, .int (nI 0)), (6, .int (nI mb9)), (5, .int (nI mq9)), (0, .ref (r 0)), (1, .int (nI d)), (2, .int (nI w)), (3, .int (-(nI k))), (4, .int (nI q))]) hx hb dX3_firstWrong_33 hl (by decide) rfl (fun ls hl => ?_)
    have lp_35 : ∀ (n_ : Nat) (j : Nat), 7 - j < n_ → (j ≤ 7) → (∀ i, i < j → w.testBit i = mb9.testBit i) → ∀ x2 : Int32, x2 = nI w → ∀ x6 : Int32, x6 = nI mb9 → ∀ x7 : Int32, x7 = nI j → ∀ (H : Heap) (locs : List Loc), va_P D vwCl ((zm_w cI cB r) (s, a, z, h)) H → va_D A ((zm_w cI cB r) (s, a, z, h)) → va_S A st.heap H locs → ∀ ls : Array Slot, lv_has ls 8 [(2, .int x2), (6, .int x6), (7, .int x7)] → W p l e rmX3_firstWrong st m args below meth c H locs 0 0 Q (F0 m 35 ls []) := by
      intro n_
      induction n_ with
      | zero => intros; omega
      | succ n_ ih_35 =>
        intro j hmu_35 hj9 gj
        intro x2 ex2; subst ex2
        intro x6 ex6; subst ex6
        intro x7 ex7; subst ex7
        intro H locs hP hD hS ls hl
        have hl : lv_has ls 8 [(2, .int (nI w)), (6, .int (nI mb9)), (7, .int (nI j))] := hl
        refine lv_iload hx hb dX3_firstWrong_35 (lv_at hl 2 rfl) ?_
        refine lv_bipush (v := nI 7) hx hb dX3_firstWrong_37 (by decide) ?_
        refine zx_icmp_ge hx hb (tgt := 64) (by omega) (by omega) dX3_firstWrong_39 (by decide) (fun c_39 => ?_) (fun c_39 => ?_)
        · refine lv_iload hx hb dX3_firstWrong_64 (lv_at hl 2 rfl) ?_
          exact hret _ _ _ _ _ _ hP hD hS dX3_firstWrong_66 ⟨zp_fw_eq hM hj9 gj (Or.inl (by omega)), rfl⟩
        · refine lv_iload_n hx hb dX3_firstWrong_42 rfl (lv_at hl 0 rfl) ?_
          refine lv_iload hx hb dX3_firstWrong_43 (lv_at hl 2 rfl) ?_
          refine zx_S (As := [.int (nI w), .int (nI j)]) (rest := []) cf (c_X3_has l D w j (by omega) (by omega)) (va_cwS 2 hts gX3_firstWrong_X3_has rfl rfl rfl hd_X3_has ⟨Nat.le_of_ble_eq_true rfl, Nat.le_of_ble_eq_true rfl⟩) hK hN hP hS hA rfl hl.1 rfl (Nat.le_of_ble_eq_true rfl) dX3_firstWrong_45 ⟨Nat.zero_le _, Nat.zero_le _⟩ (fun H locs hP hS => ?_)
          refine lv_iload hx hb dX3_firstWrong_48 (lv_at hl 1 rfl) ?_
          refine lv_iload hx hb dX3_firstWrong_50 (lv_at hl 2 rfl) ?_
          refine zx_S (As := [.int (nI mb9), .int (nI j)]) (rest := [.int (zx_b (Nat.testBit w j))]) cf (c_X3_has l D mb9 j hmb (by omega)) (va_cwS 2 hts gX3_firstWrong_X3_has rfl rfl rfl hd_X3_has ⟨Nat.le_of_ble_eq_true rfl, Nat.le_of_ble_eq_true rfl⟩) hK hN hP hS hA rfl hl.1 rfl (Nat.le_of_ble_eq_true rfl) dX3_firstWrong_52 ⟨Nat.zero_le _, Nat.zero_le _⟩ (fun H locs hP hS => ?_)
          refine zx_bc_ne hx hb (tgt := 64) dX3_firstWrong_55 (by decide) (fun c_55 => ?_) (fun c_55 => ?_)
          · refine lv_iload hx hb dX3_firstWrong_64 (lv_at hl 2 rfl) ?_
            exact hret _ _ _ _ _ _ hP hD hS dX3_firstWrong_66 ⟨zp_fw_eq hM hj9 gj (Or.inr c_55), rfl⟩
          · refine lv_iinc (v := nI (j + 1)) (lv' := [(7, .int (nI (j + 1))), (2, .int (nI w)), (6, .int (nI mb9))]) hx hb dX3_firstWrong_58 hl (k := 2) rfl (zx_inc _ _) (by decide) rfl (fun ls hl => ?_)
            refine lv_goto (tgt := 35) hx hb dX3_firstWrong_61 (by decide) ?_
            exact ih_35 (j + 1) (by omega) (by omega) (lt_s gj c_55) _ rfl _ rfl _ rfl _ _ hP hD hS ls (lv_sub hl [1, 2, 0] rfl)
    exact lp_35 _ 0 (Nat.lt_succ_self _) (Nat.zero_le _) (fun j hj => absurd hj (Nat.not_lt_zero j)) _ rfl _ rfl _ rfl _ _ hP hD hS ls (lv_sub hl [5, 1, 0] rfl)
  · exact absurd (zx_negp h0 (by omega)) c_12
theorem c_X3_firstWrong (l : Launch) (D : va_G) (cI cB : ClassId) (r : Nat → Nat) (s : Nat → Nat) (a : Nat → Nat → Nat) (z : Nat → Int) (h : Int64) (d w : Nat) (ah : Int) (q : Nat) (hI : zm_I s a z) (hd : d < 9) (hw : w < 128) (hq : q < 128) (hah : -3 ≤ ah ∧ ah ≤ 4) : zx_C zx_ei l D (zm_t cI cB) (zm_w cI cB r) yX3_firstWrong wsX3_firstWrong rmX3_firstWrong [.ref (r 0), .int (nI d), .int (nI w), .int (zx_i ah), .int (nI q)] (s, a, z, h) (fun v u' => v = nI (zp_fw (zm_f s a d ah q) w) ∧ u' = (s, a, z, h)) := by
  by_cases h0 : 0 ≤ ah
  · obtain ⟨k, rfl⟩ : ∃ k : Nat, ah = (k : Int) := ⟨ah.toNat, by omega⟩
    exact c_X3_firstWrong_p l D cI cB r s a z h d w k q hI hd hw hq (by omega)
  · obtain ⟨k, rfl⟩ : ∃ k : Nat, ah = -(k : Int) := ⟨(-ah).toNat, by omega⟩
    rw [show zx_i (-(k : Int)) = -(nI k) from (zx_i_neg _).symm]
    exact c_X3_firstWrong_n l D cI cB r s a z h d w k q hI hd hw hq (by omega) (by omega)
set_option maxHeartbeats 4000000 in
set_option maxRecDepth 100000 in
theorem c_X3_isSo (l : Launch) (D : va_G) (cI cB : ClassId) (r : Nat → Nat) (s : Nat → Nat) (a : Nat → Nat → Nat) (z : Nat → Int) (h : Int64) (d w : Nat) (hI : zm_I s a z) (hd : d < 9) (hw : w < 128) : zx_C zx_ei l D (zm_t cI cB) (zm_w cI cB r) yX3_isSo wsX3_isSo rmX3_isSo [.ref (r 0), .int (nI d), .int (nI w)] (s, a, z, h) (fun v u' => v = zx_b (zp_ag (zm_F s a z d) w) ∧ u' = (s, a, z, h)) := by
  refine zx_of_z (cc := cX3_isSo) (maxL := 3) (by decide) rfl (Nat.le_of_ble_eq_true rfl) ?_
  intro p e st m args below meth c A Q H cf hK hN hP hD hS hA hret ls hl
  obtain ⟨hx, hb, hml, hown, hts⟩ := id cf
  have hi3 : ∀ w ∈ wsX30, w ∈ wsX3_isSo := fun w h => List.mem_cons_of_mem _ (List.mem_append_right _ h)
  have k13 := hts (.fieldLink RX3 13 "NineDrawersModel" "laidIn" "[I") (List.mem_of_getElem? (i := 1) (by decide +kernel))
  have hl : lv_has ls 3 [(0, .ref (r 0)), (1, .int (nI d)), (2, .int (nI w))] := hl
  have hP : va_P D vwCl ((zm_w cI cB r) (s, a, z, h)) H := hP
  have hD : va_D A ((zm_w cI cB r) (s, a, z, h)) := hD
  obtain ⟨⟨i0, i1, i3, i5, i9, i13, i14⟩, ⟨i17, i18, i19, i20, i21⟩, iP, iF, iL, iG, iZ, jL, jP, jF⟩ := id hI
  refine lv_aload_n hx hb dX3_isSo_0 rfl (lv_at hl 0 rfl) ?_
  refine lv_iload_n hx hb dX3_isSo_1 rfl (lv_at hl 1 rfl) ?_
  refine lv_iload_n hx hb dX3_isSo_2 rfl (lv_at hl 2 rfl) ?_
  refine lv_aload_n hx hb dX3_isSo_3 rfl (lv_at hl 0 rfl) ?_
  refine lv_iload_n hx hb dX3_isSo_4 rfl (lv_at hl 1 rfl) ?_
  refine zx_V_i (As := [.int (nI d)]) (rest := [.int (nI w), .int (nI d), .ref (r 0)]) cf (c_X3_aheadOf l D cI cB r s a z h d hI (by omega)) (cwV 1 hts gX3_isSo_X3_aheadOf rfl rfl rfl ⟨rfl, hd_X3_aheadOf⟩ ⟨Nat.le_of_ble_eq_true rfl, Nat.le_of_ble_eq_true rfl⟩) hK hN hP hD hS hA 0 rfl rfl rfl hl.1 rfl (Nat.le_of_ble_eq_true rfl) dX3_isSo_5 ⟨Nat.zero_le _, Nat.zero_le _⟩ (fun v_5 u_5 H locs hq hP hD hS => ?_)
  obtain ⟨rfl, rfl⟩ := hq
  refine lv_aload_n hx hb dX3_isSo_8 rfl (lv_at hl 0 rfl) ?_
  refine va_get (D := D) (ci := 3) (v := .ref (r 4)) (C := RX3) (T := TX3) (N := 29) hx hb hts hi3 hown hK hP 0 rfl rfl 4 (by decide) k13 (fun _ h9 => h9) rfl dX3_isSo_9 ?_
  refine lv_iload_n hx hb dX3_isSo_12 rfl (lv_at hl 1 rfl) ?_
  refine zx_ald (f := a 4) (n := 9) hx hb hK hP 2 0 rfl rfl (by omega) (by decide) dX3_isSo_13 ?_
  refine zx_V_i (As := [.int (nI d), .int (nI w), .int (zx_i (zp_ah (s 3) (z d))), .int (nI ((a 4) d))]) (rest := []) cf (c_X3_firstWrong l D cI cB r s a z h d w (zp_ah (s 3) (z d)) ((a 4) d) hI hd hw (iL d hd) (zp_ah_rng i3 (iZ d hd))) (cwV 4 hts gX3_isSo_X3_firstWrong rfl rfl rfl ⟨rfl, hd_X3_firstWrong⟩ ⟨Nat.le_of_ble_eq_true rfl, Nat.le_of_ble_eq_true rfl⟩) hK hN hP hD hS hA 0 rfl rfl rfl hl.1 rfl (Nat.le_of_ble_eq_true rfl) dX3_isSo_14 ⟨Nat.zero_le _, Nat.zero_le _⟩ (fun v_14 u_14 H locs hq hP hD hS => ?_)
  obtain ⟨rfl, rfl⟩ := hq
  refine zx_topi (y := nI (zp_fw (zm_F s a z d) w)) (rfl) ?_
  refine lv_bipush (v := nI 7) hx hb dX3_isSo_17 (by decide) ?_
  refine zx_icmp_ne hx hb (tgt := 26) (zp_fw_lt _ _) (by decide) dX3_isSo_19 (by decide) (fun c_19 => ?_) (fun c_19 => ?_)
  · refine lv_iconst (v := nI 0) hx hb dX3_isSo_26 (by decide) ?_
    exact hret _ _ _ _ _ _ hP hD hS dX3_isSo_27 zx_nar0 ⟨zx_b_f (decide_eq_false c_19), rfl⟩
  · refine lv_iconst (v := nI 1) hx hb dX3_isSo_22 (by decide) ?_
    refine lv_goto (tgt := 27) hx hb dX3_isSo_23 (by decide) ?_
    exact hret _ _ _ _ _ _ hP hD hS dX3_isSo_27 zx_nar1 ⟨zx_b_t (decide_eq_true c_19), rfl⟩
set_option maxHeartbeats 4000000 in
set_option maxRecDepth 100000 in
theorem c_X3_agreeing (l : Launch) (D : va_G) (cI cB : ClassId) (r : Nat → Nat) (s : Nat → Nat) (a : Nat → Nat → Nat) (z : Nat → Int) (h : Int64) (d : Nat) (hI : zm_I s a z) (hd : d < 9) : zx_C zx_ei l D (zm_t cI cB) (zm_w cI cB r) yX3_agreeing wsX3_agreeing rmX3_agreeing [.ref (r 0), .int (nI d)] (s, a, z, h) (fun v u' => v = nI (zp_nag (zm_F s a z d)) ∧ u' = (s, a, z, h)) := by
  refine zx_of_i (cc := cX3_agreeing) (maxL := 4) (by decide) rfl (Nat.le_of_ble_eq_true rfl) ?_
  intro p e st m args below meth c A Q H cf hK hN hP hD hS hA hret ls hl
  obtain ⟨hx, hb, hml, hown, hts⟩ := id cf
  have hl : lv_has ls 4 [(0, .ref (r 0)), (1, .int (nI d))] := hl
  have hP : va_P D vwCl ((zm_w cI cB r) (s, a, z, h)) H := hP
  have hD : va_D A ((zm_w cI cB r) (s, a, z, h)) := hD
  refine lv_iconst (v := nI 0) hx hb dX3_agreeing_0 (by decide) ?_
  refine lv_istore_n (lv' := [(2, .int (nI 0)), (0, .ref (r 0)), (1, .int (nI d))]) hx hb dX3_agreeing_1 rfl hl (by decide) rfl (fun ls hl => ?_)
  refine lv_iconst (v := nI 0) hx hb dX3_agreeing_2 (by decide) ?_
  refine lv_istore_n (lv' := [(3, .int (nI 0)), (2, .int (nI 0)), (0, .ref (r 0)), (1, .int (nI d))]) hx hb dX3_agreeing_3 rfl hl (by decide) rfl (fun ls hl => ?_)
  have lp_4 : ∀ (n_ : Nat) (i : Nat), 128 - i < n_ → (i ≤ 128) → ∀ x1 : Int32, x1 = nI d → ∀ x2 : Int32, x2 = nI (zp_cnt (zp_ag (zm_F s a z d)) i) → ∀ x3 : Int32, x3 = nI i → ∀ (H : Heap) (locs : List Loc), va_P D vwCl ((zm_w cI cB r) (s, a, z, h)) H → va_D A ((zm_w cI cB r) (s, a, z, h)) → va_S A st.heap H locs → ∀ ls : Array Slot, lv_has ls 4 [(0, .ref (r 0)), (1, .int x1), (2, .int x2), (3, .int x3)] → W p l e rmX3_agreeing st m args below meth c H locs 0 0 Q (F0 m 4 ls []) := by
    intro n_
    induction n_ with
    | zero => intros; omega
    | succ n_ ih_4 =>
      intro i hmu_4 hi9
      intro x1 ex1; subst ex1
      intro x2 ex2; subst ex2
      intro x3 ex3; subst ex3
      intro H locs hP hD hS ls hl
      have hl : lv_has ls 4 [(0, .ref (r 0)), (1, .int (nI d)), (2, .int (nI (zp_cnt (zp_ag (zm_F s a z d)) i))), (3, .int (nI i))] := hl
      refine lv_iload_n hx hb dX3_agreeing_4 rfl (lv_at hl 3 rfl) ?_
      refine lv_sipush (v := nI 128) hx hb dX3_agreeing_5 (by decide) ?_
      refine zx_icmp_ge hx hb (tgt := 34) (by omega) (by omega) dX3_agreeing_8 (by decide) (fun c_8 => ?_) (fun c_8 => ?_)
      · refine lv_iload_n hx hb dX3_agreeing_34 rfl (lv_at hl 2 rfl) ?_
        exact hret _ _ _ _ _ _ hP hD hS dX3_agreeing_35 ⟨by rw [show i = 128 by omega]; rfl, rfl⟩
      · refine lv_iload_n hx hb dX3_agreeing_11 rfl (lv_at hl 2 rfl) ?_
        refine lv_aload_n hx hb dX3_agreeing_12 rfl (lv_at hl 0 rfl) ?_
        refine lv_iload_n hx hb dX3_agreeing_13 rfl (lv_at hl 1 rfl) ?_
        refine lv_iload_n hx hb dX3_agreeing_14 rfl (lv_at hl 3 rfl) ?_
        refine zx_V_i (As := [.int (nI d), .int (nI i)]) (rest := [.int (nI (zp_cnt (zp_ag (zm_F s a z d)) i))]) cf (c_X3_isSo l D cI cB r s a z h d i hI (by omega) (by omega)) (cwV 2 hts gX3_agreeing_X3_isSo rfl rfl rfl ⟨rfl, hd_X3_isSo⟩ ⟨Nat.le_of_ble_eq_true rfl, Nat.le_of_ble_eq_true rfl⟩) hK hN hP hD hS hA 0 rfl rfl rfl hl.1 rfl (Nat.le_of_ble_eq_true rfl) dX3_agreeing_15 ⟨Nat.zero_le _, Nat.zero_le _⟩ (fun v_15 u_15 H locs hq hP hD hS => ?_)
        obtain ⟨rfl, rfl⟩ := hq
        refine zx_bf_eq hx hb (tgt := 25) dX3_agreeing_18 (by decide) (fun c_18 => ?_) (fun c_18 => ?_)
        · refine lv_iconst (v := nI 0) hx hb dX3_agreeing_25 (by decide) ?_
          refine zx_iadd hx hb dX3_agreeing_26 ?_
          refine lv_istore_n (lv' := [(2, .int (nI ((zp_cnt (zp_ag (zm_F s a z d)) i) + 0))), (0, .ref (r 0)), (1, .int (nI d)), (3, .int (nI i))]) hx hb dX3_agreeing_27 rfl hl (by decide) rfl (fun ls hl => ?_)
          refine lv_iinc (v := nI (i + 1)) (lv' := [(3, .int (nI (i + 1))), (2, .int (nI ((zp_cnt (zp_ag (zm_F s a z d)) i) + 0))), (0, .ref (r 0)), (1, .int (nI d))]) hx hb dX3_agreeing_28 hl (k := 3) rfl (zx_inc _ _) (by decide) rfl (fun ls hl => ?_)
          refine lv_goto (tgt := 4) hx hb dX3_agreeing_31 (by decide) ?_
          exact ih_4 (i + 1) (by omega) (by omega) _ rfl _ (zp_cntF c_18) _ rfl _ _ hP hD hS ls (lv_sub hl [2, 3, 1, 0] rfl)
        · refine lv_iconst (v := nI 1) hx hb dX3_agreeing_21 (by decide) ?_
          refine lv_goto (tgt := 26) hx hb dX3_agreeing_22 (by decide) ?_
          refine zx_iadd hx hb dX3_agreeing_26 ?_
          refine lv_istore_n (lv' := [(2, .int (nI ((zp_cnt (zp_ag (zm_F s a z d)) i) + 1))), (0, .ref (r 0)), (1, .int (nI d)), (3, .int (nI i))]) hx hb dX3_agreeing_27 rfl hl (by decide) rfl (fun ls hl => ?_)
          refine lv_iinc (v := nI (i + 1)) (lv' := [(3, .int (nI (i + 1))), (2, .int (nI ((zp_cnt (zp_ag (zm_F s a z d)) i) + 1))), (0, .ref (r 0)), (1, .int (nI d))]) hx hb dX3_agreeing_28 hl (k := 3) rfl (zx_inc _ _) (by decide) rfl (fun ls hl => ?_)
          refine lv_goto (tgt := 4) hx hb dX3_agreeing_31 (by decide) ?_
          exact ih_4 (i + 1) (by omega) (by omega) _ rfl _ (zp_cntT c_18) _ rfl _ _ hP hD hS ls (lv_sub hl [2, 3, 1, 0] rfl)
  exact lp_4 _ 0 (Nat.lt_succ_self _) (Nat.zero_le _) _ rfl _ rfl _ rfl _ _ hP hD hS ls (lv_sub hl [2, 3, 1, 0] rfl)
set_option maxHeartbeats 4000000 in
set_option maxRecDepth 100000 in
theorem c_X3_cannotOf (l : Launch) (D : va_G) (cI cB : ClassId) (r : Nat → Nat) (s : Nat → Nat) (a : Nat → Nat → Nat) (z : Nat → Int) (h : Int64) (d : Nat) (hI : zm_I s a z) (hd : d < 9) : zx_C zx_ei l D (zm_t cI cB) (zm_w cI cB r) yX3_cannotOf wsX3_cannotOf rmX3_cannotOf [.ref (r 0), .int (nI d)] (s, a, z, h) (fun v u' => v = zp_can (zm_F s a z d) ∧ u' = (s, a, z, h)) := by
  refine zx_of_i (cc := cX3_cannotOf) (maxL := 5) (by decide) rfl (Nat.le_of_ble_eq_true rfl) ?_
  intro p e st m args below meth c A Q H cf hK hN hP hD hS hA hret ls hl
  obtain ⟨hx, hb, hml, hown, hts⟩ := id cf
  have hi3 : ∀ w ∈ wsX30, w ∈ wsX3_cannotOf := fun w h => List.mem_cons_of_mem _ (List.mem_append_right _ h)
  have k13 := hts (.fieldLink RX3 13 "NineDrawersModel" "laidIn" "[I") (List.mem_of_getElem? (i := 1) (by decide +kernel))
  have hl : lv_has ls 5 [(0, .ref (r 0)), (1, .int (nI d))] := hl
  have hP : va_P D vwCl ((zm_w cI cB r) (s, a, z, h)) H := hP
  have hD : va_D A ((zm_w cI cB r) (s, a, z, h)) := hD
  obtain ⟨⟨i0, i1, i3, i5, i9, i13, i14⟩, ⟨i17, i18, i19, i20, i21⟩, iP, iF, iL, iG, iZ, jL, jP, jF⟩ := id hI
  refine lv_iconst (v := nI 0) hx hb dX3_cannotOf_0 (by decide) ?_
  refine lv_istore_n (lv' := [(2, .int (nI 0)), (0, .ref (r 0)), (1, .int (nI d))]) hx hb dX3_cannotOf_1 rfl hl (by decide) rfl (fun ls hl => ?_)
  refine lv_iconst (v := nI 0) hx hb dX3_cannotOf_2 (by decide) ?_
  refine lv_istore_n (lv' := [(3, .int (nI 0)), (2, .int (nI 0)), (0, .ref (r 0)), (1, .int (nI d))]) hx hb dX3_cannotOf_3 rfl hl (by decide) rfl (fun ls hl => ?_)
  have lp_4 : ∀ (n_ : Nat) (i : Nat), 128 - i < n_ → (i ≤ 128) → ∀ x1 : Int32, x1 = nI d → ∀ x2 : Int32, x2 = nI (zp_max (zp_fw (zm_F s a z d)) i) → ∀ x3 : Int32, x3 = nI i → ∀ (H : Heap) (locs : List Loc), va_P D vwCl ((zm_w cI cB r) (s, a, z, h)) H → va_D A ((zm_w cI cB r) (s, a, z, h)) → va_S A st.heap H locs → ∀ ls : Array Slot, lv_has ls 5 [(0, .ref (r 0)), (1, .int x1), (2, .int x2), (3, .int x3)] → W p l e rmX3_cannotOf st m args below meth c H locs 0 0 Q (F0 m 4 ls []) := by
    intro n_
    induction n_ with
    | zero => intros; omega
    | succ n_ ih_4 =>
      intro i hmu_4 hi9
      intro x1 ex1; subst ex1
      intro x2 ex2; subst ex2
      intro x3 ex3; subst ex3
      intro H locs hP hD hS ls hl
      have hl : lv_has ls 5 [(0, .ref (r 0)), (1, .int (nI d)), (2, .int (nI (zp_max (zp_fw (zm_F s a z d)) i))), (3, .int (nI i))] := hl
      refine lv_iload_n hx hb dX3_cannotOf_4 rfl (lv_at hl 3 rfl) ?_
      refine lv_sipush (v := nI 128) hx hb dX3_cannotOf_5 (by decide) ?_
      refine zx_icmp_ge hx hb (tgt := 49) (by omega) (by omega) dX3_cannotOf_8 (by decide) (fun c_8 => ?_) (fun c_8 => ?_)
      · refine lv_iload_n hx hb dX3_cannotOf_49 rfl (lv_at hl 2 rfl) ?_
        refine lv_bipush (v := nI 7) hx hb dX3_cannotOf_50 (by decide) ?_
        refine zx_icmp_ne hx hb (tgt := 59) (zp_mxf_lt _ _) (by decide) dX3_cannotOf_52 (by decide) (fun c_52 => ?_) (fun c_52 => ?_)
        · refine lv_iload_n hx hb dX3_cannotOf_59 rfl (lv_at hl 2 rfl) ?_
          exact hret _ _ _ _ _ _ hP hD hS dX3_cannotOf_60 ⟨by rw [show i = 128 by omega] at c_52 ⊢; exact (if_neg c_52).symm, rfl⟩
        · refine lv_iconst (v := (-1)) hx hb dX3_cannotOf_55 (by decide) ?_
          refine lv_goto (tgt := 60) hx hb dX3_cannotOf_56 (by decide) ?_
          exact hret _ _ _ _ _ _ hP hD hS dX3_cannotOf_60 ⟨by rw [show i = 128 by omega] at c_52; exact (if_pos c_52).symm, rfl⟩
      · refine lv_aload_n hx hb dX3_cannotOf_11 rfl (lv_at hl 0 rfl) ?_
        refine lv_iload_n hx hb dX3_cannotOf_12 rfl (lv_at hl 1 rfl) ?_
        refine lv_iload_n hx hb dX3_cannotOf_13 rfl (lv_at hl 3 rfl) ?_
        refine lv_aload_n hx hb dX3_cannotOf_14 rfl (lv_at hl 0 rfl) ?_
        refine lv_iload_n hx hb dX3_cannotOf_15 rfl (lv_at hl 1 rfl) ?_
        refine zx_V_i (As := [.int (nI d)]) (rest := [.int (nI i), .int (nI d), .ref (r 0)]) cf (c_X3_aheadOf l D cI cB r s a z h d hI (by omega)) (cwV 1 hts gX3_cannotOf_X3_aheadOf rfl rfl rfl ⟨rfl, hd_X3_aheadOf⟩ ⟨Nat.le_of_ble_eq_true rfl, Nat.le_of_ble_eq_true rfl⟩) hK hN hP hD hS hA 0 rfl rfl rfl hl.1 rfl (Nat.le_of_ble_eq_true rfl) dX3_cannotOf_16 ⟨Nat.zero_le _, Nat.zero_le _⟩ (fun v_16 u_16 H locs hq hP hD hS => ?_)
        obtain ⟨rfl, rfl⟩ := hq
        refine lv_aload_n hx hb dX3_cannotOf_19 rfl (lv_at hl 0 rfl) ?_
        refine va_get (D := D) (ci := 3) (v := .ref (r 4)) (C := RX3) (T := TX3) (N := 29) hx hb hts hi3 hown hK hP 0 rfl rfl 4 (by decide) k13 (fun _ h9 => h9) rfl dX3_cannotOf_20 ?_
        refine lv_iload_n hx hb dX3_cannotOf_23 rfl (lv_at hl 1 rfl) ?_
        refine zx_ald (f := a 4) (n := 9) hx hb hK hP 2 0 rfl rfl (by omega) (by decide) dX3_cannotOf_24 ?_
        refine zx_V_i (As := [.int (nI d), .int (nI i), .int (zx_i (zp_ah (s 3) (z d))), .int (nI ((a 4) d))]) (rest := []) cf (c_X3_firstWrong l D cI cB r s a z h d i (zp_ah (s 3) (z d)) ((a 4) d) hI hd (by omega) (iL d hd) (zp_ah_rng i3 (iZ d hd))) (cwV 4 hts gX3_cannotOf_X3_firstWrong rfl rfl rfl ⟨rfl, hd_X3_firstWrong⟩ ⟨Nat.le_of_ble_eq_true rfl, Nat.le_of_ble_eq_true rfl⟩) hK hN hP hD hS hA 0 rfl rfl rfl hl.1 rfl (Nat.le_of_ble_eq_true rfl) dX3_cannotOf_25 ⟨Nat.zero_le _, Nat.zero_le _⟩ (fun v_25 u_25 H locs hq hP hD hS => ?_)
        obtain ⟨rfl, rfl⟩ := hq
        refine zx_topi (y := nI (zp_fw (zm_F s a z d) i)) (rfl) ?_
        refine lv_istore (lv' := [(4, .int (nI (zp_fw (zm_F s a z d) i))), (0, .ref (r 0)), (1, .int (nI d)), (2, .int (nI (zp_max (zp_fw (zm_F s a z d)) i))), (3, .int (nI i))]) hx hb dX3_cannotOf_28 hl (by decide) rfl (fun ls hl => ?_)
        refine lv_iload hx hb dX3_cannotOf_30 (lv_at hl 0 rfl) ?_
        refine lv_iload_n hx hb dX3_cannotOf_32 rfl (lv_at hl 3 rfl) ?_
        refine zx_icmp_le hx hb (tgt := 41) (zp_fw_lt _ _) (zp_mxf_lt _ _) dX3_cannotOf_33 (by decide) (fun c_33 => ?_) (fun c_33 => ?_)
        · refine lv_iload_n hx hb dX3_cannotOf_41 rfl (lv_at hl 3 rfl) ?_
          refine lv_istore_n (lv' := [(2, .int (nI (zp_max (zp_fw (zm_F s a z d)) i))), (4, .int (nI (zp_fw (zm_F s a z d) i))), (0, .ref (r 0)), (1, .int (nI d)), (3, .int (nI i))]) hx hb dX3_cannotOf_42 rfl hl (by decide) rfl (fun ls hl => ?_)
          refine lv_iinc (v := nI (i + 1)) (lv' := [(3, .int (nI (i + 1))), (2, .int (nI (zp_max (zp_fw (zm_F s a z d)) i))), (4, .int (nI (zp_fw (zm_F s a z d) i))), (0, .ref (r 0)), (1, .int (nI d))]) hx hb dX3_cannotOf_43 hl (k := 4) rfl (zx_inc _ _) (by decide) rfl (fun ls hl => ?_)
          refine lv_goto (tgt := 4) hx hb dX3_cannotOf_46 (by decide) ?_
          exact ih_4 (i + 1) (by omega) (by omega) _ rfl _ (congrArg nI (if_neg (Nat.not_lt.mpr c_33)).symm) _ rfl _ _ hP hD hS ls (lv_sub hl [3, 4, 1, 0] rfl)
        · refine lv_iload hx hb dX3_cannotOf_36 (lv_at hl 0 rfl) ?_
          refine lv_goto (tgt := 42) hx hb dX3_cannotOf_38 (by decide) ?_
          refine lv_istore_n (lv' := [(2, .int (nI (zp_fw (zm_F s a z d) i))), (4, .int (nI (zp_fw (zm_F s a z d) i))), (0, .ref (r 0)), (1, .int (nI d)), (3, .int (nI i))]) hx hb dX3_cannotOf_42 rfl hl (by decide) rfl (fun ls hl => ?_)
          refine lv_iinc (v := nI (i + 1)) (lv' := [(3, .int (nI (i + 1))), (2, .int (nI (zp_fw (zm_F s a z d) i))), (4, .int (nI (zp_fw (zm_F s a z d) i))), (0, .ref (r 0)), (1, .int (nI d))]) hx hb dX3_cannotOf_43 hl (k := 4) rfl (zx_inc _ _) (by decide) rfl (fun ls hl => ?_)
          refine lv_goto (tgt := 4) hx hb dX3_cannotOf_46 (by decide) ?_
          exact ih_4 (i + 1) (by omega) (by omega) _ rfl _ (congrArg nI (if_pos c_33).symm) _ rfl _ _ hP hD hS ls (lv_sub hl [3, 4, 1, 0] rfl)
  exact lp_4 _ 0 (Nat.lt_succ_self _) (Nat.zero_le _) _ rfl _ rfl _ rfl _ _ hP hD hS ls (lv_sub hl [2, 3, 1, 0] rfl)
set_option maxHeartbeats 4000000 in
set_option maxRecDepth 100000 in
theorem c_X3_leastOf (l : Launch) (D : va_G) (cI cB : ClassId) (r : Nat → Nat) (s : Nat → Nat) (a : Nat → Nat → Nat) (z : Nat → Int) (h : Int64) (d : Nat) (hI : zm_I s a z) (hd : d < 9) : zx_C zx_ei l D (zm_t cI cB) (zm_w cI cB r) yX3_leastOf wsX3_leastOf rmX3_leastOf [.ref (r 0), .int (nI d)] (s, a, z, h) (fun v u' => v = zp_lst (zm_F s a z d) ∧ u' = (s, a, z, h)) := by
  refine zx_of_i (cc := cX3_leastOf) (maxL := 3) (by decide) rfl (Nat.le_of_ble_eq_true rfl) ?_
  intro p e st m args below meth c A Q H cf hK hN hP hD hS hA hret ls hl
  obtain ⟨hx, hb, hml, hown, hts⟩ := id cf
  have hl : lv_has ls 3 [(0, .ref (r 0)), (1, .int (nI d))] := hl
  have hP : va_P D vwCl ((zm_w cI cB r) (s, a, z, h)) H := hP
  have hD : va_D A ((zm_w cI cB r) (s, a, z, h)) := hD
  obtain ⟨⟨i0, i1, i3, i5, i9, i13, i14⟩, ⟨i17, i18, i19, i20, i21⟩, iP, iF, iL, iG, iZ, jL, jP, jF⟩ := id hI
  refine lv_iconst (v := nI 0) hx hb dX3_leastOf_0 (by decide) ?_
  refine lv_istore_n (lv' := [(2, .int (nI 0)), (0, .ref (r 0)), (1, .int (nI d))]) hx hb dX3_leastOf_1 rfl hl (by decide) rfl (fun ls hl => ?_)
  have lp_2 : ∀ (n_ : Nat) (k : Nat), 128 - k < n_ → (k ≤ 128) → (∀ j, j < k → zp_ag (zm_F s a z d) j = false) → ∀ x1 : Int32, x1 = nI d → ∀ x2 : Int32, x2 = nI k → ∀ (H : Heap) (locs : List Loc), va_P D vwCl ((zm_w cI cB r) (s, a, z, h)) H → va_D A ((zm_w cI cB r) (s, a, z, h)) → va_S A st.heap H locs → ∀ ls : Array Slot, lv_has ls 3 [(0, .ref (r 0)), (1, .int x1), (2, .int x2)] → W p l e rmX3_leastOf st m args below meth c H locs 0 0 Q (F0 m 2 ls []) := by
    intro n_
    induction n_ with
    | zero => intros; omega
    | succ n_ ih_2 =>
      intro k hmu_2 hk9 gk
      intro x1 ex1; subst ex1
      intro x2 ex2; subst ex2
      intro H locs hP hD hS ls hl
      have hl : lv_has ls 3 [(0, .ref (r 0)), (1, .int (nI d)), (2, .int (nI k))] := hl
      refine lv_iload_n hx hb dX3_leastOf_2 rfl (lv_at hl 2 rfl) ?_
      refine lv_sipush (v := nI 128) hx hb dX3_leastOf_3 (by decide) ?_
      refine zx_icmp_ge hx hb (tgt := 24) (by omega) (by omega) dX3_leastOf_6 (by decide) (fun c_6 => ?_) (fun c_6 => ?_)
      · refine lv_iload_n hx hb dX3_leastOf_24 rfl (lv_at hl 2 rfl) ?_
        refine lv_sipush (v := nI 128) hx hb dX3_leastOf_25 (by decide) ?_
        refine zx_icmp_ne hx hb (tgt := 35) (by omega) (by omega) dX3_leastOf_28 (by decide) (fun c_28 => ?_) (fun c_28 => ?_)
        · refine lv_iload_n hx hb dX3_leastOf_35 rfl (lv_at hl 2 rfl) ?_
          exact hret _ _ _ _ _ _ hP hD hS dX3_leastOf_36 ⟨zp_lst_k hk9 gk (Or.inl (by omega)) c_28, rfl⟩
        · refine lv_iconst (v := (-1)) hx hb dX3_leastOf_31 (by decide) ?_
          refine lv_goto (tgt := 36) hx hb dX3_leastOf_32 (by decide) ?_
          exact hret _ _ _ _ _ _ hP hD hS dX3_leastOf_36 ⟨zp_lst_n hk9 gk (Or.inl (by omega)) c_28, rfl⟩
      · refine lv_aload_n hx hb dX3_leastOf_9 rfl (lv_at hl 0 rfl) ?_
        refine lv_iload_n hx hb dX3_leastOf_10 rfl (lv_at hl 1 rfl) ?_
        refine lv_iload_n hx hb dX3_leastOf_11 rfl (lv_at hl 2 rfl) ?_
        refine zx_V_i (As := [.int (nI d), .int (nI k)]) (rest := []) cf (c_X3_isSo l D cI cB r s a z h d k hI (by omega) (by omega)) (cwV 2 hts gX3_leastOf_X3_isSo rfl rfl rfl ⟨rfl, hd_X3_isSo⟩ ⟨Nat.le_of_ble_eq_true rfl, Nat.le_of_ble_eq_true rfl⟩) hK hN hP hD hS hA 0 rfl rfl rfl hl.1 rfl (Nat.le_of_ble_eq_true rfl) dX3_leastOf_12 ⟨Nat.zero_le _, Nat.zero_le _⟩ (fun v_12 u_12 H locs hq hP hD hS => ?_)
        obtain ⟨rfl, rfl⟩ := hq
        refine zx_bf_ne hx hb (tgt := 24) dX3_leastOf_15 (by decide) (fun c_15 => ?_) (fun c_15 => ?_)
        · refine lv_iload_n hx hb dX3_leastOf_24 rfl (lv_at hl 2 rfl) ?_
          refine lv_sipush (v := nI 128) hx hb dX3_leastOf_25 (by decide) ?_
          refine zx_icmp_ne hx hb (tgt := 35) (by omega) (by omega) dX3_leastOf_28 (by decide) (fun c_28 => ?_) (fun c_28 => ?_)
          · refine lv_iload_n hx hb dX3_leastOf_35 rfl (lv_at hl 2 rfl) ?_
            exact hret _ _ _ _ _ _ hP hD hS dX3_leastOf_36 ⟨zp_lst_k hk9 gk (Or.inr c_15) c_28, rfl⟩
          · refine lv_iconst (v := (-1)) hx hb dX3_leastOf_31 (by decide) ?_
            refine lv_goto (tgt := 36) hx hb dX3_leastOf_32 (by decide) ?_
            exact hret _ _ _ _ _ _ hP hD hS dX3_leastOf_36 ⟨zp_lst_n hk9 gk (Or.inr c_15) c_28, rfl⟩
        · refine lv_iinc (v := nI (k + 1)) (lv' := [(2, .int (nI (k + 1))), (0, .ref (r 0)), (1, .int (nI d))]) hx hb dX3_leastOf_18 hl (k := 2) rfl (zx_inc _ _) (by decide) rfl (fun ls hl => ?_)
          refine lv_goto (tgt := 2) hx hb dX3_leastOf_21 (by decide) ?_
          exact ih_2 (k + 1) (by omega) (by omega) (lt_s gk c_15) _ rfl _ rfl _ _ hP hD hS ls (lv_sub hl [1, 2, 0] rfl)
  exact lp_2 _ 0 (Nat.lt_succ_self _) (Nat.zero_le _) (fun j hj => absurd hj (Nat.not_lt_zero j)) _ rfl _ rfl _ _ hP hD hS ls (lv_sub hl [1, 2, 0] rfl)
set_option maxHeartbeats 4000000 in
set_option maxRecDepth 100000 in
theorem c_X3_peopleOf (l : Launch) (D : va_G) (cI cB : ClassId) (r : Nat → Nat) (s : Nat → Nat) (a : Nat → Nat → Nat) (z : Nat → Int) (h : Int64) (d : Nat) (hI : zm_I s a z) (hd : d < 9) : zx_C zx_ei l D (zm_t cI cB) (zm_w cI cB r) yX3_peopleOf wsX3_peopleOf rmX3_peopleOf [.ref (r 0), .int (nI d)] (s, a, z, h) (fun v u' => v = nI (zp_bits (fun p9 => decide (a 7 p9 = d)) (s 5)) ∧ u' = (s, a, z, h)) := by
  refine zx_of_i (cc := cX3_peopleOf) (maxL := 4) (by decide) rfl (Nat.le_of_ble_eq_true rfl) ?_
  intro p e st m args below meth c A Q H cf hK hN hP hD hS hA hret ls hl
  obtain ⟨hx, hb, hml, hown, hts⟩ := id cf
  have hi3 : ∀ w ∈ wsX30, w ∈ wsX3_peopleOf := fun w h => List.mem_cons_of_mem _ (List.mem_append_right _ h)
  have k82 := hts (.fieldLink RX3 82 "NineDrawersModel" "people" "I") (List.mem_of_getElem? (i := 1) (by decide +kernel))
  have k19 := hts (.fieldLink RX3 19 "NineDrawersModel" "drawerOf" "[I") (List.mem_of_getElem? (i := 2) (by decide +kernel))
  have hl : lv_has ls 4 [(0, .ref (r 0)), (1, .int (nI d))] := hl
  have hP : va_P D vwCl ((zm_w cI cB r) (s, a, z, h)) H := hP
  have hD : va_D A ((zm_w cI cB r) (s, a, z, h)) := hD
  obtain ⟨⟨i0, i1, i3, i5, i9, i13, i14⟩, ⟨i17, i18, i19, i20, i21⟩, iP, iF, iL, iG, iZ, jL, jP, jF⟩ := id hI
  refine lv_iconst (v := nI 0) hx hb dX3_peopleOf_0 (by decide) ?_
  refine lv_istore_n (lv' := [(2, .int (nI 0)), (0, .ref (r 0)), (1, .int (nI d))]) hx hb dX3_peopleOf_1 rfl hl (by decide) rfl (fun ls hl => ?_)
  refine lv_iconst (v := nI 0) hx hb dX3_peopleOf_2 (by decide) ?_
  refine lv_istore_n (lv' := [(3, .int (nI 0)), (2, .int (nI 0)), (0, .ref (r 0)), (1, .int (nI d))]) hx hb dX3_peopleOf_3 rfl hl (by decide) rfl (fun ls hl => ?_)
  have lp_4 : ∀ (n_ : Nat) (k : Nat), s 5 - k < n_ → (k ≤ s 5) → ∀ x1 : Int32, x1 = nI d → ∀ x2 : Int32, x2 = nI (zp_bits (fun p9 => decide (a 7 p9 = d)) k) → ∀ x3 : Int32, x3 = nI k → ∀ (H : Heap) (locs : List Loc), va_P D vwCl ((zm_w cI cB r) (s, a, z, h)) H → va_D A ((zm_w cI cB r) (s, a, z, h)) → va_S A st.heap H locs → ∀ ls : Array Slot, lv_has ls 4 [(0, .ref (r 0)), (1, .int x1), (2, .int x2), (3, .int x3)] → W p l e rmX3_peopleOf st m args below meth c H locs 0 0 Q (F0 m 4 ls []) := by
    intro n_
    induction n_ with
    | zero => intros; omega
    | succ n_ ih_4 =>
      intro k hmu_4 hk9
      intro x1 ex1; subst ex1
      intro x2 ex2; subst ex2
      intro x3 ex3; subst ex3
      intro H locs hP hD hS ls hl
      have hl : lv_has ls 4 [(0, .ref (r 0)), (1, .int (nI d)), (2, .int (nI (zp_bits (fun p9 => decide (a 7 p9 = d)) k))), (3, .int (nI k))] := hl
      refine lv_iload_n hx hb dX3_peopleOf_4 rfl (lv_at hl 3 rfl) ?_
      refine lv_aload_n hx hb dX3_peopleOf_5 rfl (lv_at hl 0 rfl) ?_
      refine va_get (D := D) (ci := 3) (v := .int (nI (s 5))) (C := RX3) (T := TX3) (N := 29) hx hb hts hi3 hown hK hP 0 rfl rfl 5 (by decide) k82 (fun _ h9 => h9) rfl dX3_peopleOf_6 ?_
      refine zx_icmp_ge hx hb (tgt := 38) (by omega) (by omega) dX3_peopleOf_9 (by decide) (fun c_9 => ?_) (fun c_9 => ?_)
      · refine lv_iload_n hx hb dX3_peopleOf_38 rfl (lv_at hl 2 rfl) ?_
        exact hret _ _ _ _ _ _ hP hD hS dX3_peopleOf_39 ⟨by rw [show k = s 5 by omega], rfl⟩
      · refine lv_iload_n hx hb dX3_peopleOf_12 rfl (lv_at hl 2 rfl) ?_
        refine lv_aload_n hx hb dX3_peopleOf_13 rfl (lv_at hl 0 rfl) ?_
        refine va_get (D := D) (ci := 3) (v := .ref (r 7)) (C := RX3) (T := TX3) (N := 29) hx hb hts hi3 hown hK hP 0 rfl rfl 7 (by decide) k19 (fun _ h9 => h9) rfl dX3_peopleOf_14 ?_
        refine lv_iload_n hx hb dX3_peopleOf_17 rfl (lv_at hl 3 rfl) ?_
        refine zx_ald (f := a 7) (n := 6) hx hb hK hP 4 0 rfl rfl (by omega) (by decide) dX3_peopleOf_18 ?_
        refine lv_iload_n hx hb dX3_peopleOf_19 rfl (lv_at hl 1 rfl) ?_
        refine zx_icmp_ne hx hb (tgt := 29) (by have := (iP k (by omega)).2.1; omega) (by omega) dX3_peopleOf_20 (by decide) (fun c_20 => ?_) (fun c_20 => ?_)
        · refine lv_iconst (v := nI 0) hx hb dX3_peopleOf_29 (by decide) ?_
          refine zx_ior hx hb dX3_peopleOf_30 ?_
          refine lv_istore_n (lv' := [(2, .int (nI ((zp_bits (fun p9 => decide (a 7 p9 = d)) k) ||| 0))), (0, .ref (r 0)), (1, .int (nI d)), (3, .int (nI k))]) hx hb dX3_peopleOf_31 rfl hl (by decide) rfl (fun ls hl => ?_)
          refine lv_iinc (v := nI (k + 1)) (lv' := [(3, .int (nI (k + 1))), (2, .int (nI ((zp_bits (fun p9 => decide (a 7 p9 = d)) k) ||| 0))), (0, .ref (r 0)), (1, .int (nI d))]) hx hb dX3_peopleOf_32 hl (k := 3) rfl (zx_inc _ _) (by decide) rfl (fun ls hl => ?_)
          refine lv_goto (tgt := 4) hx hb dX3_peopleOf_35 (by decide) ?_
          exact ih_4 (k + 1) (by omega) (by omega) _ rfl _ (zp_bitsF (f := (fun p9 => decide (a 7 p9 = d))) (decide_eq_false c_20)) _ rfl _ _ hP hD hS ls (lv_sub hl [2, 3, 1, 0] rfl)
        · refine lv_iconst (v := nI 1) hx hb dX3_peopleOf_23 (by decide) ?_
          refine lv_iload_n hx hb dX3_peopleOf_24 rfl (lv_at hl 3 rfl) ?_
          refine zx_ishl1 hx hb (by omega) dX3_peopleOf_25 ?_
          refine lv_goto (tgt := 30) hx hb dX3_peopleOf_26 (by decide) ?_
          refine zx_ior hx hb dX3_peopleOf_30 ?_
          refine lv_istore_n (lv' := [(2, .int (nI ((zp_bits (fun p9 => decide (a 7 p9 = d)) k) ||| (2 ^ k)))), (0, .ref (r 0)), (1, .int (nI d)), (3, .int (nI k))]) hx hb dX3_peopleOf_31 rfl hl (by decide) rfl (fun ls hl => ?_)
          refine lv_iinc (v := nI (k + 1)) (lv' := [(3, .int (nI (k + 1))), (2, .int (nI ((zp_bits (fun p9 => decide (a 7 p9 = d)) k) ||| (2 ^ k)))), (0, .ref (r 0)), (1, .int (nI d))]) hx hb dX3_peopleOf_32 hl (k := 3) rfl (zx_inc _ _) (by decide) rfl (fun ls hl => ?_)
          refine lv_goto (tgt := 4) hx hb dX3_peopleOf_35 (by decide) ?_
          exact ih_4 (k + 1) (by omega) (by omega) _ rfl _ (zp_bitsT (f := (fun p9 => decide (a 7 p9 = d))) (decide_eq_true c_20)) _ rfl _ _ hP hD hS ls (lv_sub hl [2, 3, 1, 0] rfl)
  exact lp_4 _ 0 (Nat.lt_succ_self _) (Nat.zero_le _) _ rfl _ rfl _ rfl _ _ hP hD hS ls (lv_sub hl [2, 3, 1, 0] rfl)
end
section
set_option maxHeartbeats 4000000 in
set_option maxRecDepth 100000 in
theorem c_X3_dn_0 (l : Launch) (D : va_G) (cI cB : ClassId) (r : Nat → Nat) (s : Nat → Nat) (a : Nat → Nat → Nat) (z : Nat → Int) (h : Int64) (d q : Nat) (hI : zm_I s a z) (hd : d < 9) (hq : q = 0) : zx_C zx_ei l D (zm_t cI cB) (zm_w cI cB r) yX3_drawerNow wsX3_drawerNow rmX3_drawerNow [.ref (r 0), .int (nI d), .int (nI q)] (s, a, z, h) (fun v u' => v = zm_dn s a z d 0 ∧ u' = (s, a, z, h)) := by
  refine zx_of_i (cc := cX3_drawerNow) (maxL := 3) (by decide) rfl (Nat.le_of_ble_eq_true rfl) ?_
  intro p e st m args below meth c A Q H cf hK hN hP hD hS hA hret ls hl
  obtain ⟨hx, hb, hml, hown, hts⟩ := id cf
  have hi3 : ∀ w ∈ wsX30, w ∈ wsX3_drawerNow := fun w h => List.mem_cons_of_mem _ (List.mem_append_right _ h)
  have k7 := hts (.fieldLink RX3 7 "NineDrawersModel" "delayOf" "[I") (List.mem_of_getElem? (i := 1) (by decide +kernel))
  have hl : lv_has ls 3 [(0, .ref (r 0)), (1, .int (nI d)), (2, .int (nI q))] := hl
  have hP : va_P D vwCl ((zm_w cI cB r) (s, a, z, h)) H := hP
  have hD : va_D A ((zm_w cI cB r) (s, a, z, h)) := hD
  obtain ⟨⟨i0, i1, i3, i5, i9, i13, i14⟩, ⟨i17, i18, i19, i20, i21⟩, iP, iF, iL, iG, iZ, jL, jP, jF⟩ := id hI
  refine lv_iload_n hx hb dX3_drawerNow_0 rfl (lv_at hl 2 rfl) ?_
  by_cases c_1_0 : q = 0
  · refine lv_tableIn (off := 39) (tgt := 40) hx hb dX3_drawerNow_1 (by rw [c_1_0]; decide) (by rw [c_1_0]; decide) (by rw [c_1_0]; rfl) (by decide) ?_
    refine lv_aload_n hx hb dX3_drawerNow_40 rfl (lv_at hl 0 rfl) ?_
    refine va_get (D := D) (ci := 3) (v := .ref (r 2)) (C := RX3) (T := TX3) (N := 29) hx hb hts hi3 hown hK hP 0 rfl rfl 2 (by decide) k7 (fun _ h9 => h9) rfl dX3_drawerNow_41 ?_
    refine lv_iload_n hx hb dX3_drawerNow_44 rfl (lv_at hl 1 rfl) ?_
    refine zx_aldI (f := z) (n := 9) hx hb hK hP 1 0 rfl rfl (by omega) (by decide) dX3_drawerNow_45 ?_
    refine lv_bipush (v := nI 10) hx hb dX3_drawerNow_46 (by decide) ?_
    refine lv_iadd hx hb dX3_drawerNow_48 ?_
    refine zx_topi (y := (zx_i (z d) + nI 10)) (rfl) ?_
    exact hret _ _ _ _ _ _ hP hD hS dX3_drawerNow_49 ⟨zm_dn0.symm, rfl⟩
  by_cases c_1_1 : q = 1
  · exact absurd (c_1_1.symm.trans hq) (by decide)
  by_cases c_1_2 : q = 2
  · exact absurd (c_1_2.symm.trans hq) (by decide)
  by_cases c_1_3 : q = 3
  · exact absurd (c_1_3.symm.trans hq) (by decide)
  by_cases c_1_4 : q = 4
  · exact absurd (c_1_4.symm.trans hq) (by decide)
  by_cases c_1_5 : q = 5
  · exact absurd (c_1_5.symm.trans hq) (by decide)
  exact absurd hq c_1_0
set_option maxHeartbeats 4000000 in
set_option maxRecDepth 100000 in
theorem c_X3_dn_1 (l : Launch) (D : va_G) (cI cB : ClassId) (r : Nat → Nat) (s : Nat → Nat) (a : Nat → Nat → Nat) (z : Nat → Int) (h : Int64) (d q : Nat) (hI : zm_I s a z) (hd : d < 9) (hq : q = 1) : zx_C zx_ei l D (zm_t cI cB) (zm_w cI cB r) yX3_drawerNow wsX3_drawerNow rmX3_drawerNow [.ref (r 0), .int (nI d), .int (nI q)] (s, a, z, h) (fun v u' => v = zm_dn s a z d 1 ∧ u' = (s, a, z, h)) := by
  refine zx_of_i (cc := cX3_drawerNow) (maxL := 3) (by decide) rfl (Nat.le_of_ble_eq_true rfl) ?_
  intro p e st m args below meth c A Q H cf hK hN hP hD hS hA hret ls hl
  obtain ⟨hx, hb, hml, hown, hts⟩ := id cf
  have hl : lv_has ls 3 [(0, .ref (r 0)), (1, .int (nI d)), (2, .int (nI q))] := hl
  have hP : va_P D vwCl ((zm_w cI cB r) (s, a, z, h)) H := hP
  have hD : va_D A ((zm_w cI cB r) (s, a, z, h)) := hD
  obtain ⟨⟨i0, i1, i3, i5, i9, i13, i14⟩, ⟨i17, i18, i19, i20, i21⟩, iP, iF, iL, iG, iZ, jL, jP, jF⟩ := id hI
  refine lv_iload_n hx hb dX3_drawerNow_0 rfl (lv_at hl 2 rfl) ?_
  by_cases c_1_0 : q = 0
  · exact absurd (c_1_0.symm.trans hq) (by decide)
  by_cases c_1_1 : q = 1
  · refine lv_tableIn (off := 49) (tgt := 50) hx hb dX3_drawerNow_1 (by rw [c_1_1]; decide) (by rw [c_1_1]; decide) (by rw [c_1_1]; rfl) (by decide) ?_
    refine lv_aload_n hx hb dX3_drawerNow_50 rfl (lv_at hl 0 rfl) ?_
    refine lv_iload_n hx hb dX3_drawerNow_51 rfl (lv_at hl 1 rfl) ?_
    refine zx_V_i (As := [.int (nI d)]) (rest := []) cf (c_X3_aheadOf l D cI cB r s a z h d hI (by omega)) (cwV 1 hts gX3_drawerNow_X3_aheadOf rfl rfl rfl ⟨rfl, hd_X3_aheadOf⟩ ⟨Nat.le_of_ble_eq_true rfl, Nat.le_of_ble_eq_true rfl⟩) hK hN hP hD hS hA 0 rfl rfl rfl hl.1 rfl (Nat.le_of_ble_eq_true rfl) dX3_drawerNow_52 ⟨Nat.zero_le _, Nat.zero_le _⟩ (fun v_52 u_52 H locs hq hP hD hS => ?_)
    obtain ⟨rfl, rfl⟩ := hq
    refine lv_bipush (v := nI 10) hx hb dX3_drawerNow_55 (by decide) ?_
    refine lv_iadd hx hb dX3_drawerNow_57 ?_
    refine zx_topi (y := (zx_i (zp_ah (s 3) (z d)) + nI 10)) (rfl) ?_
    exact hret _ _ _ _ _ _ hP hD hS dX3_drawerNow_58 ⟨zm_dn1.symm, rfl⟩
  by_cases c_1_2 : q = 2
  · exact absurd (c_1_2.symm.trans hq) (by decide)
  by_cases c_1_3 : q = 3
  · exact absurd (c_1_3.symm.trans hq) (by decide)
  by_cases c_1_4 : q = 4
  · exact absurd (c_1_4.symm.trans hq) (by decide)
  by_cases c_1_5 : q = 5
  · exact absurd (c_1_5.symm.trans hq) (by decide)
  exact absurd hq c_1_1
set_option maxHeartbeats 4000000 in
set_option maxRecDepth 100000 in
theorem c_X3_dn_2 (l : Launch) (D : va_G) (cI cB : ClassId) (r : Nat → Nat) (s : Nat → Nat) (a : Nat → Nat → Nat) (z : Nat → Int) (h : Int64) (d q : Nat) (hI : zm_I s a z) (hd : d < 9) (hq : q = 2) : zx_C zx_ei l D (zm_t cI cB) (zm_w cI cB r) yX3_drawerNow wsX3_drawerNow rmX3_drawerNow [.ref (r 0), .int (nI d), .int (nI q)] (s, a, z, h) (fun v u' => v = zm_dn s a z d 2 ∧ u' = (s, a, z, h)) := by
  refine zx_of_i (cc := cX3_drawerNow) (maxL := 3) (by decide) rfl (Nat.le_of_ble_eq_true rfl) ?_
  intro p e st m args below meth c A Q H cf hK hN hP hD hS hA hret ls hl
  obtain ⟨hx, hb, hml, hown, hts⟩ := id cf
  have hl : lv_has ls 3 [(0, .ref (r 0)), (1, .int (nI d)), (2, .int (nI q))] := hl
  have hP : va_P D vwCl ((zm_w cI cB r) (s, a, z, h)) H := hP
  have hD : va_D A ((zm_w cI cB r) (s, a, z, h)) := hD
  obtain ⟨⟨i0, i1, i3, i5, i9, i13, i14⟩, ⟨i17, i18, i19, i20, i21⟩, iP, iF, iL, iG, iZ, jL, jP, jF⟩ := id hI
  refine lv_iload_n hx hb dX3_drawerNow_0 rfl (lv_at hl 2 rfl) ?_
  by_cases c_1_0 : q = 0
  · exact absurd (c_1_0.symm.trans hq) (by decide)
  by_cases c_1_1 : q = 1
  · exact absurd (c_1_1.symm.trans hq) (by decide)
  by_cases c_1_2 : q = 2
  · refine lv_tableIn (off := 58) (tgt := 59) hx hb dX3_drawerNow_1 (by rw [c_1_2]; decide) (by rw [c_1_2]; decide) (by rw [c_1_2]; rfl) (by decide) ?_
    refine lv_aload_n hx hb dX3_drawerNow_59 rfl (lv_at hl 0 rfl) ?_
    refine lv_iload_n hx hb dX3_drawerNow_60 rfl (lv_at hl 1 rfl) ?_
    refine zx_V_i (As := [.int (nI d)]) (rest := []) cf (c_X3_peopleOf l D cI cB r s a z h d hI (by omega)) (cwV 1 hts gX3_drawerNow_X3_peopleOf rfl rfl rfl ⟨rfl, hd_X3_peopleOf⟩ ⟨Nat.le_of_ble_eq_true rfl, Nat.le_of_ble_eq_true rfl⟩) hK hN hP hD hS hA 0 rfl rfl rfl hl.1 rfl (Nat.le_of_ble_eq_true rfl) dX3_drawerNow_61 ⟨Nat.zero_le _, Nat.zero_le _⟩ (fun v_61 u_61 H locs hq hP hD hS => ?_)
    obtain ⟨rfl, rfl⟩ := hq
    exact hret _ _ _ _ _ _ hP hD hS dX3_drawerNow_64 ⟨zm_dn2.symm, rfl⟩
  by_cases c_1_3 : q = 3
  · exact absurd (c_1_3.symm.trans hq) (by decide)
  by_cases c_1_4 : q = 4
  · exact absurd (c_1_4.symm.trans hq) (by decide)
  by_cases c_1_5 : q = 5
  · exact absurd (c_1_5.symm.trans hq) (by decide)
  exact absurd hq c_1_2
set_option maxHeartbeats 4000000 in
set_option maxRecDepth 100000 in
theorem c_X3_dn_3 (l : Launch) (D : va_G) (cI cB : ClassId) (r : Nat → Nat) (s : Nat → Nat) (a : Nat → Nat → Nat) (z : Nat → Int) (h : Int64) (d q : Nat) (hI : zm_I s a z) (hd : d < 9) (hq : q = 3) : zx_C zx_ei l D (zm_t cI cB) (zm_w cI cB r) yX3_drawerNow wsX3_drawerNow rmX3_drawerNow [.ref (r 0), .int (nI d), .int (nI q)] (s, a, z, h) (fun v u' => v = zm_dn s a z d 3 ∧ u' = (s, a, z, h)) := by
  refine zx_of_i (cc := cX3_drawerNow) (maxL := 3) (by decide) rfl (Nat.le_of_ble_eq_true rfl) ?_
  intro p e st m args below meth c A Q H cf hK hN hP hD hS hA hret ls hl
  obtain ⟨hx, hb, hml, hown, hts⟩ := id cf
  have hi3 : ∀ w ∈ wsX30, w ∈ wsX3_drawerNow := fun w h => List.mem_cons_of_mem _ (List.mem_append_right _ h)
  have k13 := hts (.fieldLink RX3 13 "NineDrawersModel" "laidIn" "[I") (List.mem_of_getElem? (i := 2) (by decide +kernel))
  have hl : lv_has ls 3 [(0, .ref (r 0)), (1, .int (nI d)), (2, .int (nI q))] := hl
  have hP : va_P D vwCl ((zm_w cI cB r) (s, a, z, h)) H := hP
  have hD : va_D A ((zm_w cI cB r) (s, a, z, h)) := hD
  obtain ⟨⟨i0, i1, i3, i5, i9, i13, i14⟩, ⟨i17, i18, i19, i20, i21⟩, iP, iF, iL, iG, iZ, jL, jP, jF⟩ := id hI
  refine lv_iload_n hx hb dX3_drawerNow_0 rfl (lv_at hl 2 rfl) ?_
  by_cases c_1_0 : q = 0
  · exact absurd (c_1_0.symm.trans hq) (by decide)
  by_cases c_1_1 : q = 1
  · exact absurd (c_1_1.symm.trans hq) (by decide)
  by_cases c_1_2 : q = 2
  · exact absurd (c_1_2.symm.trans hq) (by decide)
  by_cases c_1_3 : q = 3
  · refine lv_tableIn (off := 64) (tgt := 65) hx hb dX3_drawerNow_1 (by rw [c_1_3]; decide) (by rw [c_1_3]; decide) (by rw [c_1_3]; rfl) (by decide) ?_
    refine lv_aload_n hx hb dX3_drawerNow_65 rfl (lv_at hl 0 rfl) ?_
    refine va_get (D := D) (ci := 3) (v := .ref (r 4)) (C := RX3) (T := TX3) (N := 29) hx hb hts hi3 hown hK hP 0 rfl rfl 4 (by decide) k13 (fun _ h9 => h9) rfl dX3_drawerNow_66 ?_
    refine lv_iload_n hx hb dX3_drawerNow_69 rfl (lv_at hl 1 rfl) ?_
    refine zx_ald (f := a 4) (n := 9) hx hb hK hP 2 0 rfl rfl (by omega) (by decide) dX3_drawerNow_70 ?_
    exact hret _ _ _ _ _ _ hP hD hS dX3_drawerNow_71 ⟨zm_dn3.symm, rfl⟩
  by_cases c_1_4 : q = 4
  · exact absurd (c_1_4.symm.trans hq) (by decide)
  by_cases c_1_5 : q = 5
  · exact absurd (c_1_5.symm.trans hq) (by decide)
  exact absurd hq c_1_3
set_option maxHeartbeats 4000000 in
set_option maxRecDepth 100000 in
theorem c_X3_dn_4 (l : Launch) (D : va_G) (cI cB : ClassId) (r : Nat → Nat) (s : Nat → Nat) (a : Nat → Nat → Nat) (z : Nat → Int) (h : Int64) (d q : Nat) (hI : zm_I s a z) (hd : d < 9) (hq : q = 4) : zx_C zx_ei l D (zm_t cI cB) (zm_w cI cB r) yX3_drawerNow wsX3_drawerNow rmX3_drawerNow [.ref (r 0), .int (nI d), .int (nI q)] (s, a, z, h) (fun v u' => v = zm_dn s a z d 4 ∧ u' = (s, a, z, h)) := by
  refine zx_of_i (cc := cX3_drawerNow) (maxL := 3) (by decide) rfl (Nat.le_of_ble_eq_true rfl) ?_
  intro p e st m args below meth c A Q H cf hK hN hP hD hS hA hret ls hl
  obtain ⟨hx, hb, hml, hown, hts⟩ := id cf
  have hl : lv_has ls 3 [(0, .ref (r 0)), (1, .int (nI d)), (2, .int (nI q))] := hl
  have hP : va_P D vwCl ((zm_w cI cB r) (s, a, z, h)) H := hP
  have hD : va_D A ((zm_w cI cB r) (s, a, z, h)) := hD
  obtain ⟨⟨i0, i1, i3, i5, i9, i13, i14⟩, ⟨i17, i18, i19, i20, i21⟩, iP, iF, iL, iG, iZ, jL, jP, jF⟩ := id hI
  refine lv_iload_n hx hb dX3_drawerNow_0 rfl (lv_at hl 2 rfl) ?_
  by_cases c_1_0 : q = 0
  · exact absurd (c_1_0.symm.trans hq) (by decide)
  by_cases c_1_1 : q = 1
  · exact absurd (c_1_1.symm.trans hq) (by decide)
  by_cases c_1_2 : q = 2
  · exact absurd (c_1_2.symm.trans hq) (by decide)
  by_cases c_1_3 : q = 3
  · exact absurd (c_1_3.symm.trans hq) (by decide)
  by_cases c_1_4 : q = 4
  · refine lv_tableIn (off := 71) (tgt := 72) hx hb dX3_drawerNow_1 (by rw [c_1_4]; decide) (by rw [c_1_4]; decide) (by rw [c_1_4]; rfl) (by decide) ?_
    refine lv_aload_n hx hb dX3_drawerNow_72 rfl (lv_at hl 0 rfl) ?_
    refine lv_iload_n hx hb dX3_drawerNow_73 rfl (lv_at hl 1 rfl) ?_
    refine zx_V_i (As := [.int (nI d)]) (rest := []) cf (c_X3_agreeing l D cI cB r s a z h d hI (by omega)) (cwV 1 hts gX3_drawerNow_X3_agreeing rfl rfl rfl ⟨rfl, hd_X3_agreeing⟩ ⟨Nat.le_of_ble_eq_true rfl, Nat.le_of_ble_eq_true rfl⟩) hK hN hP hD hS hA 0 rfl rfl rfl hl.1 rfl (Nat.le_of_ble_eq_true rfl) dX3_drawerNow_74 ⟨Nat.zero_le _, Nat.zero_le _⟩ (fun v_74 u_74 H locs hq hP hD hS => ?_)
    obtain ⟨rfl, rfl⟩ := hq
    exact hret _ _ _ _ _ _ hP hD hS dX3_drawerNow_77 ⟨zm_dn4.symm, rfl⟩
  by_cases c_1_5 : q = 5
  · exact absurd (c_1_5.symm.trans hq) (by decide)
  exact absurd hq c_1_4
set_option maxHeartbeats 4000000 in
set_option maxRecDepth 100000 in
theorem c_X3_dn_5 (l : Launch) (D : va_G) (cI cB : ClassId) (r : Nat → Nat) (s : Nat → Nat) (a : Nat → Nat → Nat) (z : Nat → Int) (h : Int64) (d q : Nat) (hI : zm_I s a z) (hd : d < 9) (hq : q = 5) : zx_C zx_ei l D (zm_t cI cB) (zm_w cI cB r) yX3_drawerNow wsX3_drawerNow rmX3_drawerNow [.ref (r 0), .int (nI d), .int (nI q)] (s, a, z, h) (fun v u' => v = zm_dn s a z d 5 ∧ u' = (s, a, z, h)) := by
  refine zx_of_i (cc := cX3_drawerNow) (maxL := 3) (by decide) rfl (Nat.le_of_ble_eq_true rfl) ?_
  intro p e st m args below meth c A Q H cf hK hN hP hD hS hA hret ls hl
  obtain ⟨hx, hb, hml, hown, hts⟩ := id cf
  have hl : lv_has ls 3 [(0, .ref (r 0)), (1, .int (nI d)), (2, .int (nI q))] := hl
  have hP : va_P D vwCl ((zm_w cI cB r) (s, a, z, h)) H := hP
  have hD : va_D A ((zm_w cI cB r) (s, a, z, h)) := hD
  obtain ⟨⟨i0, i1, i3, i5, i9, i13, i14⟩, ⟨i17, i18, i19, i20, i21⟩, iP, iF, iL, iG, iZ, jL, jP, jF⟩ := id hI
  refine lv_iload_n hx hb dX3_drawerNow_0 rfl (lv_at hl 2 rfl) ?_
  by_cases c_1_0 : q = 0
  · exact absurd (c_1_0.symm.trans hq) (by decide)
  by_cases c_1_1 : q = 1
  · exact absurd (c_1_1.symm.trans hq) (by decide)
  by_cases c_1_2 : q = 2
  · exact absurd (c_1_2.symm.trans hq) (by decide)
  by_cases c_1_3 : q = 3
  · exact absurd (c_1_3.symm.trans hq) (by decide)
  by_cases c_1_4 : q = 4
  · exact absurd (c_1_4.symm.trans hq) (by decide)
  by_cases c_1_5 : q = 5
  · refine lv_tableIn (off := 77) (tgt := 78) hx hb dX3_drawerNow_1 (by rw [c_1_5]; decide) (by rw [c_1_5]; decide) (by rw [c_1_5]; rfl) (by decide) ?_
    refine lv_aload_n hx hb dX3_drawerNow_78 rfl (lv_at hl 0 rfl) ?_
    refine lv_iload_n hx hb dX3_drawerNow_79 rfl (lv_at hl 1 rfl) ?_
    refine zx_V_i (As := [.int (nI d)]) (rest := []) cf (c_X3_cannotOf l D cI cB r s a z h d hI (by omega)) (cwV 1 hts gX3_drawerNow_X3_cannotOf rfl rfl rfl ⟨rfl, hd_X3_cannotOf⟩ ⟨Nat.le_of_ble_eq_true rfl, Nat.le_of_ble_eq_true rfl⟩) hK hN hP hD hS hA 0 rfl rfl rfl hl.1 rfl (Nat.le_of_ble_eq_true rfl) dX3_drawerNow_80 ⟨Nat.zero_le _, Nat.zero_le _⟩ (fun v_80 u_80 H locs hq hP hD hS => ?_)
    obtain ⟨rfl, rfl⟩ := hq
    exact hret _ _ _ _ _ _ hP hD hS dX3_drawerNow_83 ⟨zm_dn5.symm, rfl⟩
  exact absurd hq c_1_5
set_option maxHeartbeats 4000000 in
set_option maxRecDepth 100000 in
theorem c_X3_dn_6 (l : Launch) (D : va_G) (cI cB : ClassId) (r : Nat → Nat) (s : Nat → Nat) (a : Nat → Nat → Nat) (z : Nat → Int) (h : Int64) (d q : Nat) (hI : zm_I s a z) (hd : d < 9) (hq : q = 6) : zx_C zx_ei l D (zm_t cI cB) (zm_w cI cB r) yX3_drawerNow wsX3_drawerNow rmX3_drawerNow [.ref (r 0), .int (nI d), .int (nI q)] (s, a, z, h) (fun v u' => v = zm_dn s a z d 6 ∧ u' = (s, a, z, h)) := by
  refine zx_of_i (cc := cX3_drawerNow) (maxL := 3) (by decide) rfl (Nat.le_of_ble_eq_true rfl) ?_
  intro p e st m args below meth c A Q H cf hK hN hP hD hS hA hret ls hl
  obtain ⟨hx, hb, hml, hown, hts⟩ := id cf
  have hl : lv_has ls 3 [(0, .ref (r 0)), (1, .int (nI d)), (2, .int (nI q))] := hl
  have hP : va_P D vwCl ((zm_w cI cB r) (s, a, z, h)) H := hP
  have hD : va_D A ((zm_w cI cB r) (s, a, z, h)) := hD
  obtain ⟨⟨i0, i1, i3, i5, i9, i13, i14⟩, ⟨i17, i18, i19, i20, i21⟩, iP, iF, iL, iG, iZ, jL, jP, jF⟩ := id hI
  refine lv_iload_n hx hb dX3_drawerNow_0 rfl (lv_at hl 2 rfl) ?_
  by_cases c_1_0 : q = 0
  · exact absurd (c_1_0.symm.trans hq) (by decide)
  by_cases c_1_1 : q = 1
  · exact absurd (c_1_1.symm.trans hq) (by decide)
  by_cases c_1_2 : q = 2
  · exact absurd (c_1_2.symm.trans hq) (by decide)
  by_cases c_1_3 : q = 3
  · exact absurd (c_1_3.symm.trans hq) (by decide)
  by_cases c_1_4 : q = 4
  · exact absurd (c_1_4.symm.trans hq) (by decide)
  by_cases c_1_5 : q = 5
  · exact absurd (c_1_5.symm.trans hq) (by decide)
  refine lv_tableOut (tgt := 84) hx hb dX3_drawerNow_1 (by rw [hq]; exact Or.inr (by decide)) (by decide) ?_
  refine lv_aload_n hx hb dX3_drawerNow_84 rfl (lv_at hl 0 rfl) ?_
  refine lv_iload_n hx hb dX3_drawerNow_85 rfl (lv_at hl 1 rfl) ?_
  refine zx_V_i (As := [.int (nI d)]) (rest := []) cf (c_X3_leastOf l D cI cB r s a z h d hI (by omega)) (cwV 1 hts gX3_drawerNow_X3_leastOf rfl rfl rfl ⟨rfl, hd_X3_leastOf⟩ ⟨Nat.le_of_ble_eq_true rfl, Nat.le_of_ble_eq_true rfl⟩) hK hN hP hD hS hA 0 rfl rfl rfl hl.1 rfl (Nat.le_of_ble_eq_true rfl) dX3_drawerNow_86 ⟨Nat.zero_le _, Nat.zero_le _⟩ (fun v_86 u_86 H locs hq hP hD hS => ?_)
  obtain ⟨rfl, rfl⟩ := hq
  exact hret _ _ _ _ _ _ hP hD hS dX3_drawerNow_89 ⟨zm_dn6.symm, rfl⟩
theorem c_X3_drawerNow (l : Launch) (D : va_G) (cI cB : ClassId) (r : Nat → Nat) (s : Nat → Nat) (a : Nat → Nat → Nat) (z : Nat → Int) (h : Int64) (d q : Nat) (hI : zm_I s a z) (hd : d < 9) (hq : q ≤ 6) : zx_C zx_ei l D (zm_t cI cB) (zm_w cI cB r) yX3_drawerNow wsX3_drawerNow rmX3_drawerNow [.ref (r 0), .int (nI d), .int (nI q)] (s, a, z, h) (fun v u' => v = zm_dn s a z d q ∧ u' = (s, a, z, h)) := by
  rcases (show q = 0 ∨ q = 1 ∨ q = 2 ∨ q = 3 ∨ q = 4 ∨ q = 5 ∨ q = 6 by omega) with q9 | q9 | q9 | q9 | q9 | q9 | q9
  · have q8 := c_X3_dn_0 l D cI cB r s a z h d q hI hd q9
    rw [q9] at q8 ⊢
    exact q8
  · have q8 := c_X3_dn_1 l D cI cB r s a z h d q hI hd q9
    rw [q9] at q8 ⊢
    exact q8
  · have q8 := c_X3_dn_2 l D cI cB r s a z h d q hI hd q9
    rw [q9] at q8 ⊢
    exact q8
  · have q8 := c_X3_dn_3 l D cI cB r s a z h d q hI hd q9
    rw [q9] at q8 ⊢
    exact q8
  · have q8 := c_X3_dn_4 l D cI cB r s a z h d q hI hd q9
    rw [q9] at q8 ⊢
    exact q8
  · have q8 := c_X3_dn_5 l D cI cB r s a z h d q hI hd q9
    rw [q9] at q8 ⊢
    exact q8
  · have q8 := c_X3_dn_6 l D cI cB r s a z h d q hI hd q9
    rw [q9] at q8 ⊢
    exact q8
set_option maxHeartbeats 4000000 in
set_option maxRecDepth 100000 in
theorem c_X3_drawer (l : Launch) (D : va_G) (cI cB : ClassId) (r : Nat → Nat) (s : Nat → Nat) (a : Nat → Nat → Nat) (z : Nat → Int) (h : Int64) (x y : Int32) (hI : zm_I s a z) : zx_C zx_ei l D (zm_t cI cB) (zm_w cI cB r) yX3_drawer wsX3_drawer rmX3_drawer [.ref (r 0), .int x, .int y] (s, a, z, h) (fun v u' => v = zs_dq 6 (zd_drw (s 0) x) y (zm_dn s a z) ∧ u' = (s, a, z, h)) := by
  refine zx_of_i (cc := cX3_drawer) (maxL := 3) (by decide) rfl (Nat.le_of_ble_eq_true rfl) ?_
  intro p e st m args below meth c A Q H cf hK hN hP hD hS hA hret ls hl
  obtain ⟨hx, hb, hml, hown, hts⟩ := id cf
  have hl : lv_has ls 3 [(0, .ref (r 0)), (1, .int x), (2, .int y)] := hl
  have hP : va_P D vwCl ((zm_w cI cB r) (s, a, z, h)) H := hP
  have hD : va_D A ((zm_w cI cB r) (s, a, z, h)) := hD
  refine lv_aload_n hx hb dX3_drawer_0 rfl (lv_at hl 0 rfl) ?_
  refine lv_iload_n hx hb dX3_drawer_1 rfl (lv_at hl 1 rfl) ?_
  refine zx_V_i (As := [.int x]) (rest := []) cf (c_X3_isDrawer l D cI cB r s a z h x hI ) (cwV 1 hts gX3_drawer_X3_isDrawer rfl rfl rfl ⟨rfl, hd_X3_isDrawer⟩ ⟨Nat.le_of_ble_eq_true rfl, Nat.le_of_ble_eq_true rfl⟩) hK hN hP hD hS hA 0 rfl rfl rfl hl.1 rfl (Nat.le_of_ble_eq_true rfl) dX3_drawer_2 ⟨Nat.zero_le _, Nat.zero_le _⟩ (fun v_2 u_2 H locs hq hP hD hS => ?_)
  obtain ⟨rfl, rfl⟩ := hq
  refine zx_bf_ne hx hb (tgt := 13) dX3_drawer_5 (by decide) (fun c_5 => ?_) (fun c_5 => ?_)
  · obtain ⟨d, hz⟩ := zd_some c_5
    obtain ⟨rfl, hd, hc9⟩ := zd_drw_some hz
    refine lv_iload_n hx hb dX3_drawer_13 rfl (lv_at hl 2 rfl) ?_
    refine lv_iconst (v := nI 0) hx hb dX3_drawer_14 (by decide) ?_
    refine lv_bipush (v := nI 6) hx hb dX3_drawer_15 (by decide) ?_
    refine zx_S (As := [.int y, .int (nI 0), .int (nI 6)]) (rest := []) cf (c_X3_within l D y (nI 0) (nI 6) ) (va_cwS 3 hts gX3_drawer_X3_within rfl rfl rfl hd_X3_within ⟨Nat.le_of_ble_eq_true rfl, Nat.le_of_ble_eq_true rfl⟩) hK hN hP hS hA rfl hl.1 rfl (Nat.le_of_ble_eq_true rfl) dX3_drawer_17 ⟨Nat.zero_le _, Nat.zero_le _⟩ (fun H locs hP hS => ?_)
    refine zx_bf_eq hx hb (tgt := 32) dX3_drawer_20 (by decide) (fun c_20 => ?_) (fun c_20 => ?_)
    · refine lv_bipush (v := (-102)) hx hb dX3_drawer_32 (by decide) ?_
      exact hret _ _ _ _ _ _ hP hD hS dX3_drawer_34 ⟨by rw [hz]; exact (zs_dqo (zd_nos c_20)).symm, rfl⟩
    · obtain ⟨q, rfl, hq1, hq2, hy⟩ := zd_yes (by decide) (by decide) c_20
      refine lv_aload_n hx hb dX3_drawer_23 rfl (lv_at hl 0 rfl) ?_
      refine lv_iload_n hx hb dX3_drawer_24 rfl (lv_at hl 1 rfl) ?_
      refine lv_iload_n hx hb dX3_drawer_25 rfl (lv_at hl 2 rfl) ?_
      refine zx_V_i (As := [.int (nI d), .int (nI q)]) (rest := []) cf (c_X3_drawerNow l D cI cB r s a z h d q hI (by omega) (by omega)) (cwV 2 hts gX3_drawer_X3_drawerNow rfl rfl rfl ⟨rfl, hd_X3_drawerNow⟩ ⟨Nat.le_of_ble_eq_true rfl, Nat.le_of_ble_eq_true rfl⟩) hK hN hP hD hS hA 0 rfl rfl rfl hl.1 rfl (Nat.le_of_ble_eq_true rfl) dX3_drawer_26 ⟨Nat.zero_le _, Nat.zero_le _⟩ (fun v_26 u_26 H locs hq hP hD hS => ?_)
      obtain ⟨rfl, rfl⟩ := hq
      refine lv_goto (tgt := 34) hx hb dX3_drawer_29 (by decide) ?_
      exact hret _ _ _ _ _ _ hP hD hS dX3_drawer_34 ⟨by rw [hz]; exact (zs_dqi hy).symm, rfl⟩
  · refine lv_bipush (v := (-101)) hx hb dX3_drawer_8 (by decide) ?_
    refine lv_goto (tgt := 34) hx hb dX3_drawer_10 (by decide) ?_
    exact hret _ _ _ _ _ _ hP hD hS dX3_drawer_34 ⟨by rw [zd_none c_5]; rfl, rfl⟩
end
