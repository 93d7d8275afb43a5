-- ===== PART A: goes FIRST, ahead of the names: the tables' words, and 'selects' of the private methods out of them =====
/-- a private method of a class that the tables say can be made, by its rows of tables_1 -/
def lw_okq (q : MethodName × Nat) : Prop := (q.1.cls ≠ "java/lang/invoke/MethodHandle" ∧ q.1.cls ≠ "java/lang/invoke/VarHandle") ∧ Cond.instantiable q.1.cls q.2 ∈ tables_1 ∧ Cond.privateMethod q.1 ∈ tables_1 ∧ Cond.instanceMethod q.1 ∈ tables_1
theorem lw_p0 : lw_okq (⟨"FortyJars", "faulty", "(I)I"⟩, 10) := ⟨⟨by decide +kernel, by decide +kernel⟩, List.mem_of_getElem? (i := 13) (by decide +kernel), List.mem_of_getElem? (i := 250) (by decide +kernel), List.mem_of_getElem? (i := 251) (by decide +kernel)⟩
theorem lw_p1 : lw_okq (⟨"FortyJars", "takeText", "(I)I"⟩, 10) := ⟨⟨by decide +kernel, by decide +kernel⟩, List.mem_of_getElem? (i := 13) (by decide +kernel), List.mem_of_getElem? (i := 266) (by decide +kernel), List.mem_of_getElem? (i := 267) (by decide +kernel)⟩
theorem lw_p2 : lw_okq (⟨"FortyJars$Yard", "clear", "()V"⟩, 13) := ⟨⟨by decide +kernel, by decide +kernel⟩, List.mem_of_getElem? (i := 129) (by decide +kernel), List.mem_of_getElem? (i := 274) (by decide +kernel), List.mem_of_getElem? (i := 275) (by decide +kernel)⟩
theorem lw_p3 : lw_okq (⟨"FortyJars$Yard", "readCell", "([III)I"⟩, 13) := ⟨⟨by decide +kernel, by decide +kernel⟩, List.mem_of_getElem? (i := 129) (by decide +kernel), List.mem_of_getElem? (i := 281) (by decide +kernel), List.mem_of_getElem? (i := 282) (by decide +kernel)⟩
theorem lw_p4 : lw_okq (⟨"FortyJars$Yard", "addOil", "()V"⟩, 13) := ⟨⟨by decide +kernel, by decide +kernel⟩, List.mem_of_getElem? (i := 129) (by decide +kernel), List.mem_of_getElem? (i := 285) (by decide +kernel), List.mem_of_getElem? (i := 286) (by decide +kernel)⟩
theorem lw_p5 : lw_okq (⟨"FortyJars$Yard", "addMan", "(II)V"⟩, 13) := ⟨⟨by decide +kernel, by decide +kernel⟩, List.mem_of_getElem? (i := 129) (by decide +kernel), List.mem_of_getElem? (i := 292) (by decide +kernel), List.mem_of_getElem? (i := 293) (by decide +kernel)⟩
theorem lw_p6 : lw_okq (⟨"FortyJars$Yard", "addCell", "(II)V"⟩, 13) := ⟨⟨by decide +kernel, by decide +kernel⟩, List.mem_of_getElem? (i := 129) (by decide +kernel), List.mem_of_getElem? (i := 296) (by decide +kernel), List.mem_of_getElem? (i := 297) (by decide +kernel)⟩
theorem lw_p7 : lw_okq (⟨"FortyJars", "walkPlan", "(IIIIZ)I"⟩, 10) := ⟨⟨by decide +kernel, by decide +kernel⟩, List.mem_of_getElem? (i := 13) (by decide +kernel), List.mem_of_getElem? (i := 364) (by decide +kernel), List.mem_of_getElem? (i := 365) (by decide +kernel)⟩
theorem lw_p8 : lw_okq (⟨"FortyJars$Yard", "isOil", "(I)Z"⟩, 13) := ⟨⟨by decide +kernel, by decide +kernel⟩, List.mem_of_getElem? (i := 129) (by decide +kernel), List.mem_of_getElem? (i := 373) (by decide +kernel), List.mem_of_getElem? (i := 374) (by decide +kernel)⟩
theorem lw_p9 : lw_okq (⟨"FortyJars$Walk", "fill", "(LFortyJars$Yard;I)V"⟩, 7) := ⟨⟨by decide +kernel, by decide +kernel⟩, List.mem_of_getElem? (i := 59) (by decide +kernel), List.mem_of_getElem? (i := 381) (by decide +kernel), List.mem_of_getElem? (i := 382) (by decide +kernel)⟩
theorem lw_p10 : lw_okq (⟨"FortyJars$Walk", "walkTo", "(LFortyJars$Yard;I)V"⟩, 7) := ⟨⟨by decide +kernel, by decide +kernel⟩, List.mem_of_getElem? (i := 59) (by decide +kernel), List.mem_of_getElem? (i := 385) (by decide +kernel), List.mem_of_getElem? (i := 386) (by decide +kernel)⟩
theorem lw_p11 : lw_okq (⟨"FortyJars$Walk", "stands", "(I)Z"⟩, 7) := ⟨⟨by decide +kernel, by decide +kernel⟩, List.mem_of_getElem? (i := 59) (by decide +kernel), List.mem_of_getElem? (i := 390) (by decide +kernel), List.mem_of_getElem? (i := 391) (by decide +kernel)⟩
theorem lw_p12 : lw_okq (⟨"FortyJars$Walk", "pour", "(LFortyJars$Yard;II)V"⟩, 7) := ⟨⟨by decide +kernel, by decide +kernel⟩, List.mem_of_getElem? (i := 59) (by decide +kernel), List.mem_of_getElem? (i := 394) (by decide +kernel), List.mem_of_getElem? (i := 395) (by decide +kernel)⟩
theorem lw_p13 : lw_okq (⟨"FortyJars$Order", "firstUnheard", "(LFortyJars$Yard;)I"⟩, 3) := ⟨⟨by decide +kernel, by decide +kernel⟩, List.mem_of_getElem? (i := 94) (by decide +kernel), List.mem_of_getElem? (i := 407) (by decide +kernel), List.mem_of_getElem? (i := 408) (by decide +kernel)⟩
theorem lw_p14 : lw_okq (⟨"FortyJars$Search", "spread", "(LFortyJars$Yard;I)V"⟩, 3) := ⟨⟨by decide +kernel, by decide +kernel⟩, List.mem_of_getElem? (i := 113) (by decide +kernel), List.mem_of_getElem? (i := 424) (by decide +kernel), List.mem_of_getElem? (i := 425) (by decide +kernel)⟩
theorem lw_p15 : lw_okq (⟨"FortyJars$Search", "begin", "(LFortyJars$Yard;I)V"⟩, 3) := ⟨⟨by decide +kernel, by decide +kernel⟩, List.mem_of_getElem? (i := 113) (by decide +kernel), List.mem_of_getElem? (i := 428) (by decide +kernel), List.mem_of_getElem? (i := 429) (by decide +kernel)⟩
def lw_privs_1 : List (MethodName × Nat) := [(⟨"FortyJars", "faulty", "(I)I"⟩, 10), (⟨"FortyJars", "takeText", "(I)I"⟩, 10), (⟨"FortyJars$Yard", "clear", "()V"⟩, 13), (⟨"FortyJars$Yard", "readCell", "([III)I"⟩, 13), (⟨"FortyJars$Yard", "addOil", "()V"⟩, 13), (⟨"FortyJars$Yard", "addMan", "(II)V"⟩, 13), (⟨"FortyJars$Yard", "addCell", "(II)V"⟩, 13), (⟨"FortyJars", "walkPlan", "(IIIIZ)I"⟩, 10), (⟨"FortyJars$Yard", "isOil", "(I)Z"⟩, 13), (⟨"FortyJars$Walk", "fill", "(LFortyJars$Yard;I)V"⟩, 7), (⟨"FortyJars$Walk", "walkTo", "(LFortyJars$Yard;I)V"⟩, 7), (⟨"FortyJars$Walk", "stands", "(I)Z"⟩, 7), (⟨"FortyJars$Walk", "pour", "(LFortyJars$Yard;II)V"⟩, 7), (⟨"FortyJars$Order", "firstUnheard", "(LFortyJars$Yard;)I"⟩, 3), (⟨"FortyJars$Search", "spread", "(LFortyJars$Yard;I)V"⟩, 3), (⟨"FortyJars$Search", "begin", "(LFortyJars$Yard;I)V"⟩, 3)]
theorem lw_r1 : ∀ q ∈ lw_privs_1, lw_okq q := List.forall_mem_cons.mpr ⟨lw_p0, List.forall_mem_cons.mpr ⟨lw_p1, List.forall_mem_cons.mpr ⟨lw_p2, List.forall_mem_cons.mpr ⟨lw_p3, List.forall_mem_cons.mpr ⟨lw_p4, List.forall_mem_cons.mpr ⟨lw_p5, List.forall_mem_cons.mpr ⟨lw_p6, List.forall_mem_cons.mpr ⟨lw_p7, List.forall_mem_cons.mpr ⟨lw_p8, List.forall_mem_cons.mpr ⟨lw_p9, List.forall_mem_cons.mpr ⟨lw_p10, List.forall_mem_cons.mpr ⟨lw_p11, List.forall_mem_cons.mpr ⟨lw_p12, List.forall_mem_cons.mpr ⟨lw_p13, List.forall_mem_cons.mpr ⟨lw_p14, List.forall_mem_cons.mpr ⟨lw_p15, fun _ h => absurd h List.not_mem_nil⟩⟩⟩⟩⟩⟩⟩⟩⟩⟩⟩⟩⟩⟩⟩⟩
theorem lw_p16 : lw_okq (⟨"FortyJars$Search", "leastIn", "(I)I"⟩, 3) := ⟨⟨by decide +kernel, by decide +kernel⟩, List.mem_of_getElem? (i := 113) (by decide +kernel), List.mem_of_getElem? (i := 434) (by decide +kernel), List.mem_of_getElem? (i := 435) (by decide +kernel)⟩
theorem lw_p17 : lw_okq (⟨"FortyJars$Search", "isQuiet", "(II)Z"⟩, 3) := ⟨⟨by decide +kernel, by decide +kernel⟩, List.mem_of_getElem? (i := 113) (by decide +kernel), List.mem_of_getElem? (i := 441) (by decide +kernel), List.mem_of_getElem? (i := 442) (by decide +kernel)⟩
theorem lw_p18 : lw_okq (⟨"FortyJars$Search", "pourOn", "(LFortyJars$Yard;II)V"⟩, 3) := ⟨⟨by decide +kernel, by decide +kernel⟩, List.mem_of_getElem? (i := 113) (by decide +kernel), List.mem_of_getElem? (i := 445) (by decide +kernel), List.mem_of_getElem? (i := 446) (by decide +kernel)⟩
theorem lw_p19 : lw_okq (⟨"FortyJars$Search", "offer", "(IIII)V"⟩, 3) := ⟨⟨by decide +kernel, by decide +kernel⟩, List.mem_of_getElem? (i := 113) (by decide +kernel), List.mem_of_getElem? (i := 456) (by decide +kernel), List.mem_of_getElem? (i := 457) (by decide +kernel)⟩
theorem lw_p20 : lw_okq (⟨"FortyJars$Readings", "isSo", "(LFortyJars$Yard;III)Z"⟩, 4) := ⟨⟨by decide +kernel, by decide +kernel⟩, List.mem_of_getElem? (i := 38) (by decide +kernel), List.mem_of_getElem? (i := 498) (by decide +kernel), List.mem_of_getElem? (i := 499) (by decide +kernel)⟩
theorem lw_p21 : lw_okq (⟨"FortyJars", "chiefTells", "(I)I"⟩, 10) := ⟨⟨by decide +kernel, by decide +kernel⟩, List.mem_of_getElem? (i := 13) (by decide +kernel), List.mem_of_getElem? (i := 578) (by decide +kernel), List.mem_of_getElem? (i := 579) (by decide +kernel)⟩
theorem lw_p22 : lw_okq (⟨"FortyJars", "leaveTrace", "(I)V"⟩, 10) := ⟨⟨by decide +kernel, by decide +kernel⟩, List.mem_of_getElem? (i := 13) (by decide +kernel), List.mem_of_getElem? (i := 582) (by decide +kernel), List.mem_of_getElem? (i := 583) (by decide +kernel)⟩
theorem lw_p23 : lw_okq (⟨"FortyJars", "watchfulTells", "(I)I"⟩, 10) := ⟨⟨by decide +kernel, by decide +kernel⟩, List.mem_of_getElem? (i := 13) (by decide +kernel), List.mem_of_getElem? (i := 586) (by decide +kernel), List.mem_of_getElem? (i := 587) (by decide +kernel)⟩
theorem lw_p24 : lw_okq (⟨"FortyJars", "manTells", "(I)I"⟩, 10) := ⟨⟨by decide +kernel, by decide +kernel⟩, List.mem_of_getElem? (i := 13) (by decide +kernel), List.mem_of_getElem? (i := 590) (by decide +kernel), List.mem_of_getElem? (i := 591) (by decide +kernel)⟩
theorem lw_p25 : lw_okq (⟨"FortyJarsModel", "refused", "(I)I"⟩, 41) := ⟨⟨by decide +kernel, by decide +kernel⟩, List.mem_of_getElem? (i := 614) (by decide +kernel), List.mem_of_getElem? (i := 755) (by decide +kernel), List.mem_of_getElem? (i := 756) (by decide +kernel)⟩
theorem lw_p26 : lw_okq (⟨"FortyJarsModel", "cellsBarred", "(IIIJ)I"⟩, 41) := ⟨⟨by decide +kernel, by decide +kernel⟩, List.mem_of_getElem? (i := 614) (by decide +kernel), List.mem_of_getElem? (i := 760) (by decide +kernel), List.mem_of_getElem? (i := 761) (by decide +kernel)⟩
theorem lw_p27 : lw_okq (⟨"FortyJarsModel", "failed", "(I)I"⟩, 41) := ⟨⟨by decide +kernel, by decide +kernel⟩, List.mem_of_getElem? (i := 614) (by decide +kernel), List.mem_of_getElem? (i := 764) (by decide +kernel), List.mem_of_getElem? (i := 765) (by decide +kernel)⟩
theorem lw_p28 : lw_okq (⟨"FortyJarsModel", "readsYard", "(II)Z"⟩, 41) := ⟨⟨by decide +kernel, by decide +kernel⟩, List.mem_of_getElem? (i := 614) (by decide +kernel), List.mem_of_getElem? (i := 771) (by decide +kernel), List.mem_of_getElem? (i := 772) (by decide +kernel)⟩
theorem lw_p29 : lw_okq (⟨"FortyJarsModel", "codeAt", "(II)I"⟩, 41) := ⟨⟨by decide +kernel, by decide +kernel⟩, List.mem_of_getElem? (i := 614) (by decide +kernel), List.mem_of_getElem? (i := 775) (by decide +kernel), List.mem_of_getElem? (i := 776) (by decide +kernel)⟩
theorem lw_p30 : lw_okq (⟨"FortyJarsModel", "figure", "(IIII)I"⟩, 41) := ⟨⟨by decide +kernel, by decide +kernel⟩, List.mem_of_getElem? (i := 614) (by decide +kernel), List.mem_of_getElem? (i := 779) (by decide +kernel), List.mem_of_getElem? (i := 780) (by decide +kernel)⟩
theorem lw_p31 : lw_okq (⟨"FortyJarsModel", "readsCell", "(III)Z"⟩, 41) := ⟨⟨by decide +kernel, by decide +kernel⟩, List.mem_of_getElem? (i := 614) (by decide +kernel), List.mem_of_getElem? (i := 783) (by decide +kernel), List.mem_of_getElem? (i := 784) (by decide +kernel)⟩
def lw_privs_2 : List (MethodName × Nat) := [(⟨"FortyJars$Search", "leastIn", "(I)I"⟩, 3), (⟨"FortyJars$Search", "isQuiet", "(II)Z"⟩, 3), (⟨"FortyJars$Search", "pourOn", "(LFortyJars$Yard;II)V"⟩, 3), (⟨"FortyJars$Search", "offer", "(IIII)V"⟩, 3), (⟨"FortyJars$Readings", "isSo", "(LFortyJars$Yard;III)Z"⟩, 4), (⟨"FortyJars", "chiefTells", "(I)I"⟩, 10), (⟨"FortyJars", "leaveTrace", "(I)V"⟩, 10), (⟨"FortyJars", "watchfulTells", "(I)I"⟩, 10), (⟨"FortyJars", "manTells", "(I)I"⟩, 10), (⟨"FortyJarsModel", "refused", "(I)I"⟩, 41), (⟨"FortyJarsModel", "cellsBarred", "(IIIJ)I"⟩, 41), (⟨"FortyJarsModel", "failed", "(I)I"⟩, 41), (⟨"FortyJarsModel", "readsYard", "(II)Z"⟩, 41), (⟨"FortyJarsModel", "codeAt", "(II)I"⟩, 41), (⟨"FortyJarsModel", "figure", "(IIII)I"⟩, 41), (⟨"FortyJarsModel", "readsCell", "(III)Z"⟩, 41)]
theorem lw_r2 : ∀ q ∈ lw_privs_2, lw_okq q := List.forall_mem_cons.mpr ⟨lw_p16, List.forall_mem_cons.mpr ⟨lw_p17, List.forall_mem_cons.mpr ⟨lw_p18, List.forall_mem_cons.mpr ⟨lw_p19, List.forall_mem_cons.mpr ⟨lw_p20, List.forall_mem_cons.mpr ⟨lw_p21, List.forall_mem_cons.mpr ⟨lw_p22, List.forall_mem_cons.mpr ⟨lw_p23, List.forall_mem_cons.mpr ⟨lw_p24, List.forall_mem_cons.mpr ⟨lw_p25, List.forall_mem_cons.mpr ⟨lw_p26, List.forall_mem_cons.mpr ⟨lw_p27, List.forall_mem_cons.mpr ⟨lw_p28, List.forall_mem_cons.mpr ⟨lw_p29, List.forall_mem_cons.mpr ⟨lw_p30, List.forall_mem_cons.mpr ⟨lw_p31, fun _ h => absurd h List.not_mem_nil⟩⟩⟩⟩⟩⟩⟩⟩⟩⟩⟩⟩⟩⟩⟩⟩
theorem lw_p32 : lw_okq (⟨"FortyJarsModel", "readsMan", "(IIII)Z"⟩, 41) := ⟨⟨by decide +kernel, by decide +kernel⟩, List.mem_of_getElem? (i := 614) (by decide +kernel), List.mem_of_getElem? (i := 787) (by decide +kernel), List.mem_of_getElem? (i := 788) (by decide +kernel)⟩
theorem lw_p33 : lw_okq (⟨"FortyJarsModel", "noSpot", "(I)Z"⟩, 41) := ⟨⟨by decide +kernel, by decide +kernel⟩, List.mem_of_getElem? (i := 614) (by decide +kernel), List.mem_of_getElem? (i := 795) (by decide +kernel), List.mem_of_getElem? (i := 796) (by decide +kernel)⟩
theorem lw_p34 : lw_okq (⟨"FortyJarsModel", "noMan", "(I)Z"⟩, 41) := ⟨⟨by decide +kernel, by decide +kernel⟩, List.mem_of_getElem? (i := 614) (by decide +kernel), List.mem_of_getElem? (i := 803) (by decide +kernel), List.mem_of_getElem? (i := 804) (by decide +kernel)⟩
theorem lw_p35 : lw_okq (⟨"FortyJarsModel", "hearsOf", "(I)I"⟩, 41) := ⟨⟨by decide +kernel, by decide +kernel⟩, List.mem_of_getElem? (i := 614) (by decide +kernel), List.mem_of_getElem? (i := 807) (by decide +kernel), List.mem_of_getElem? (i := 808) (by decide +kernel)⟩
theorem lw_p36 : lw_okq (⟨"FortyJarsModel", "farOf", "(II)I"⟩, 41) := ⟨⟨by decide +kernel, by decide +kernel⟩, List.mem_of_getElem? (i := 614) (by decide +kernel), List.mem_of_getElem? (i := 818) (by decide +kernel), List.mem_of_getElem? (i := 819) (by decide +kernel)⟩
theorem lw_p37 : lw_okq (⟨"FortyJarsModel", "all", "()I"⟩, 41) := ⟨⟨by decide +kernel, by decide +kernel⟩, List.mem_of_getElem? (i := 614) (by decide +kernel), List.mem_of_getElem? (i := 840) (by decide +kernel), List.mem_of_getElem? (i := 841) (by decide +kernel)⟩
theorem lw_p38 : lw_okq (⟨"FortyJarsModel", "hearersAt", "(II)I"⟩, 41) := ⟨⟨by decide +kernel, by decide +kernel⟩, List.mem_of_getElem? (i := 614) (by decide +kernel), List.mem_of_getElem? (i := 844) (by decide +kernel), List.mem_of_getElem? (i := 845) (by decide +kernel)⟩
theorem lw_p39 : lw_okq (⟨"FortyJarsModel", "planBarred", "(IIIIZ)I"⟩, 41) := ⟨⟨by decide +kernel, by decide +kernel⟩, List.mem_of_getElem? (i := 614) (by decide +kernel), List.mem_of_getElem? (i := 853) (by decide +kernel), List.mem_of_getElem? (i := 854) (by decide +kernel)⟩
theorem lw_p40 : lw_okq (⟨"FortyJarsModel", "noStep", "(I)Z"⟩, 41) := ⟨⟨by decide +kernel, by decide +kernel⟩, List.mem_of_getElem? (i := 614) (by decide +kernel), List.mem_of_getElem? (i := 858) (by decide +kernel), List.mem_of_getElem? (i := 859) (by decide +kernel)⟩
theorem lw_p41 : lw_okq (⟨"FortyJarsModel", "goPlan", "(II)V"⟩, 41) := ⟨⟨by decide +kernel, by decide +kernel⟩, List.mem_of_getElem? (i := 614) (by decide +kernel), List.mem_of_getElem? (i := 862) (by decide +kernel), List.mem_of_getElem? (i := 863) (by decide +kernel)⟩
theorem lw_p42 : lw_okq (⟨"FortyJarsModel", "layQuiet", "()I"⟩, 41) := ⟨⟨by decide +kernel, by decide +kernel⟩, List.mem_of_getElem? (i := 614) (by decide +kernel), List.mem_of_getElem? (i := 870) (by decide +kernel), List.mem_of_getElem? (i := 871) (by decide +kernel)⟩
theorem lw_p43 : lw_okq (⟨"FortyJarsModel", "soonestOf", "(I)I"⟩, 41) := ⟨⟨by decide +kernel, by decide +kernel⟩, List.mem_of_getElem? (i := 614) (by decide +kernel), List.mem_of_getElem? (i := 882) (by decide +kernel), List.mem_of_getElem? (i := 883) (by decide +kernel)⟩
theorem lw_p44 : lw_okq (⟨"FortyJarsModel", "laySoon", "(I)V"⟩, 41) := ⟨⟨by decide +kernel, by decide +kernel⟩, List.mem_of_getElem? (i := 614) (by decide +kernel), List.mem_of_getElem? (i := 886) (by decide +kernel), List.mem_of_getElem? (i := 887) (by decide +kernel)⟩
theorem lw_p45 : lw_okq (⟨"FortyJarsModel", "goOn", "(I)Z"⟩, 41) := ⟨⟨by decide +kernel, by decide +kernel⟩, List.mem_of_getElem? (i := 614) (by decide +kernel), List.mem_of_getElem? (i := 894) (by decide +kernel), List.mem_of_getElem? (i := 895) (by decide +kernel)⟩
theorem lw_p46 : lw_okq (⟨"FortyJarsModel", "cellOfPlace", "(I)I"⟩, 41) := ⟨⟨by decide +kernel, by decide +kernel⟩, List.mem_of_getElem? (i := 614) (by decide +kernel), List.mem_of_getElem? (i := 898) (by decide +kernel), List.mem_of_getElem? (i := 899) (by decide +kernel)⟩
theorem lw_p47 : lw_okq (⟨"FortyJarsModel", "soonestFor", "(I)I"⟩, 41) := ⟨⟨by decide +kernel, by decide +kernel⟩, List.mem_of_getElem? (i := 614) (by decide +kernel), List.mem_of_getElem? (i := 902) (by decide +kernel), List.mem_of_getElem? (i := 903) (by decide +kernel)⟩
def lw_privs_3 : List (MethodName × Nat) := [(⟨"FortyJarsModel", "readsMan", "(IIII)Z"⟩, 41), (⟨"FortyJarsModel", "noSpot", "(I)Z"⟩, 41), (⟨"FortyJarsModel", "noMan", "(I)Z"⟩, 41), (⟨"FortyJarsModel", "hearsOf", "(I)I"⟩, 41), (⟨"FortyJarsModel", "farOf", "(II)I"⟩, 41), (⟨"FortyJarsModel", "all", "()I"⟩, 41), (⟨"FortyJarsModel", "hearersAt", "(II)I"⟩, 41), (⟨"FortyJarsModel", "planBarred", "(IIIIZ)I"⟩, 41), (⟨"FortyJarsModel", "noStep", "(I)Z"⟩, 41), (⟨"FortyJarsModel", "goPlan", "(II)V"⟩, 41), (⟨"FortyJarsModel", "layQuiet", "()I"⟩, 41), (⟨"FortyJarsModel", "soonestOf", "(I)I"⟩, 41), (⟨"FortyJarsModel", "laySoon", "(I)V"⟩, 41), (⟨"FortyJarsModel", "goOn", "(I)Z"⟩, 41), (⟨"FortyJarsModel", "cellOfPlace", "(I)I"⟩, 41), (⟨"FortyJarsModel", "soonestFor", "(I)I"⟩, 41)]
theorem lw_r3 : ∀ q ∈ lw_privs_3, lw_okq q := List.forall_mem_cons.mpr ⟨lw_p32, List.forall_mem_cons.mpr ⟨lw_p33, List.forall_mem_cons.mpr ⟨lw_p34, List.forall_mem_cons.mpr ⟨lw_p35, List.forall_mem_cons.mpr ⟨lw_p36, List.forall_mem_cons.mpr ⟨lw_p37, List.forall_mem_cons.mpr ⟨lw_p38, List.forall_mem_cons.mpr ⟨lw_p39, List.forall_mem_cons.mpr ⟨lw_p40, List.forall_mem_cons.mpr ⟨lw_p41, List.forall_mem_cons.mpr ⟨lw_p42, List.forall_mem_cons.mpr ⟨lw_p43, List.forall_mem_cons.mpr ⟨lw_p44, List.forall_mem_cons.mpr ⟨lw_p45, List.forall_mem_cons.mpr ⟨lw_p46, List.forall_mem_cons.mpr ⟨lw_p47, fun _ h => absurd h List.not_mem_nil⟩⟩⟩⟩⟩⟩⟩⟩⟩⟩⟩⟩⟩⟩⟩⟩
theorem lw_p48 : lw_okq (⟨"FortyJarsModel", "areSo", "()Z"⟩, 41) := ⟨⟨by decide +kernel, by decide +kernel⟩, List.mem_of_getElem? (i := 614) (by decide +kernel), List.mem_of_getElem? (i := 929) (by decide +kernel), List.mem_of_getElem? (i := 930) (by decide +kernel)⟩
theorem lw_p49 : lw_okq (⟨"FortyJarsModel", "noCell", "(II)I"⟩, 41) := ⟨⟨by decide +kernel, by decide +kernel⟩, List.mem_of_getElem? (i := 614) (by decide +kernel), List.mem_of_getElem? (i := 964) (by decide +kernel), List.mem_of_getElem? (i := 965) (by decide +kernel)⟩
theorem lw_p50 : lw_okq (⟨"FortyJarsModel", "failedLong", "(I)J"⟩, 41) := ⟨⟨by decide +kernel, by decide +kernel⟩, List.mem_of_getElem? (i := 614) (by decide +kernel), List.mem_of_getElem? (i := 972) (by decide +kernel), List.mem_of_getElem? (i := 973) (by decide +kernel)⟩
theorem lw_p51 : lw_okq (⟨"FortyJarsModel", "traced", "(I)V"⟩, 41) := ⟨⟨by decide +kernel, by decide +kernel⟩, List.mem_of_getElem? (i := 614) (by decide +kernel), List.mem_of_getElem? (i := 984) (by decide +kernel), List.mem_of_getElem? (i := 985) (by decide +kernel)⟩
def lw_privs_4 : List (MethodName × Nat) := [(⟨"FortyJarsModel", "areSo", "()Z"⟩, 41), (⟨"FortyJarsModel", "noCell", "(II)I"⟩, 41), (⟨"FortyJarsModel", "failedLong", "(I)J"⟩, 41), (⟨"FortyJarsModel", "traced", "(I)V"⟩, 41)]
theorem lw_r4 : ∀ q ∈ lw_privs_4, lw_okq q := List.forall_mem_cons.mpr ⟨lw_p48, List.forall_mem_cons.mpr ⟨lw_p49, List.forall_mem_cons.mpr ⟨lw_p50, List.forall_mem_cons.mpr ⟨lw_p51, fun _ h => absurd h List.not_mem_nil⟩⟩⟩⟩
def lw_privs : List (MethodName × Nat) := lw_privs_1 ++ (lw_privs_2 ++ (lw_privs_3 ++ (lw_privs_4)))
def lw_tbl : List Cond := k2_sels lw_privs ++ tables_1
theorem lw_privs_ok : ∀ q ∈ lw_privs, lw_okq q := by
  show ∀ q ∈ lw_privs_1 ++ (lw_privs_2 ++ (lw_privs_3 ++ (lw_privs_4))), lw_okq q
  exact List.forall_mem_append.mpr ⟨lw_r1, List.forall_mem_append.mpr ⟨lw_r2, List.forall_mem_append.mpr ⟨lw_r3, lw_r4⟩⟩⟩
-- ===== end of PART A; then your names; then what follows =====
/-! ===== BEGIN printed: names, fields, word lists, decode rows ===== -/
def RX0 : String := "FortyJars$Order"
def TX0 : u_T := fun k => match k with
  | 0 => ("FortyJars$Order", "row", "[I", true)
  | 1 => ("FortyJars$Order", "length", "I", false)
  | _ => ("FortyJars$Order", "leftOver", "I", false)
def tyX0 : Nat → FieldType := fun k => match k with
  | 0 => .array .int
  | 1 => .int
  | _ => .int
theorem nmX0 : ∀ a, a < 3 → ∀ b, b < 3 → a ≠ b → (TX0 a).2.1 ≠ (TX0 b).2.1 := by decide +kernel
theorem tyX0_ok : ∀ k, k < 3 → parseFieldDescriptor (TX0 k).2.2.1 = some (tyX0 k) := by decide +kernel
abbrev cX0_init : ByteArray := prog_2_method_1_code
def yX0_init : MethodName := ⟨RX0, "<init>", "()V"⟩
abbrev cX0_find : ByteArray := prog_2_method_2_code
def yX0_find : MethodName := ⟨RX0, "find", "(LFortyJars$Yard;)V"⟩
abbrev cX0_firstUnheard : ByteArray := prog_2_method_3_code
def yX0_firstUnheard : MethodName := ⟨RX0, "firstUnheard", "(LFortyJars$Yard;)I"⟩
def RX1 : String := "FortyJars$Readings"
def TX1 : u_T := fun k => match k with
  | 0 => ("FortyJars$Readings", "count", "I", false)
  | 1 => ("FortyJars$Readings", "man", "[I", true)
  | 2 => ("FortyJars$Readings", "place", "[I", true)
  | _ => ("FortyJars$Readings", "heard", "[Z", true)
def tyX1 : Nat → FieldType := fun k => match k with
  | 0 => .int
  | 1 => .array .int
  | 2 => .array .int
  | _ => .array .boolean
theorem nmX1 : ∀ a, a < 4 → ∀ b, b < 4 → a ≠ b → (TX1 a).2.1 ≠ (TX1 b).2.1 := by decide +kernel
theorem tyX1_ok : ∀ k, k < 4 → parseFieldDescriptor (TX1 k).2.2.1 = some (tyX1 k) := by decide +kernel
abbrev cX1_init : ByteArray := prog_3_method_1_code
def yX1_init : MethodName := ⟨RX1, "<init>", "()V"⟩
abbrev cX1_add : ByteArray := prog_3_method_2_code
def yX1_add : MethodName := ⟨RX1, "add", "(IIZ)I"⟩
abbrev cX1_allSo : ByteArray := prog_3_method_3_code
def yX1_allSo : MethodName := ⟨RX1, "allSo", "(LFortyJars$Yard;)Z"⟩
abbrev cX1_allSoIf : ByteArray := prog_3_method_4_code
def yX1_allSoIf : MethodName := ⟨RX1, "allSoIf", "(LFortyJars$Yard;III)Z"⟩
abbrev cX1_isSo : ByteArray := prog_3_method_5_code
def yX1_isSo : MethodName := ⟨RX1, "isSo", "(LFortyJars$Yard;III)Z"⟩
def RX2 : String := "FortyJars$Search"
def TX2 : u_T := fun k => match k with
  | 0 => ("FortyJars$Search", "least", "[I", true)
  | 1 => ("FortyJars$Search", "leastOfSet", "[I", true)
  | _ => ("FortyJars$Search", "hearers", "[I", true)
def tyX2 : Nat → FieldType := fun k => match k with
  | 0 => .array .int
  | 1 => .array .int
  | _ => .array .int
theorem nmX2 : ∀ a, a < 3 → ∀ b, b < 3 → a ≠ b → (TX2 a).2.1 ≠ (TX2 b).2.1 := by decide +kernel
theorem tyX2_ok : ∀ k, k < 3 → parseFieldDescriptor (TX2 k).2.2.1 = some (tyX2 k) := by decide +kernel
abbrev cX2_init : ByteArray := prog_4_method_1_code
def yX2_init : MethodName := ⟨RX2, "<init>", "()V"⟩
abbrev cX2_leastMinutes : ByteArray := prog_4_method_2_code
def yX2_leastMinutes : MethodName := ⟨RX2, "leastMinutes", "(LFortyJars$Yard;I)I"⟩
abbrev cX2_largestBy : ByteArray := prog_4_method_3_code
def yX2_largestBy : MethodName := ⟨RX2, "largestBy", "(LFortyJars$Yard;I)I"⟩
abbrev cX2_spread : ByteArray := prog_4_method_4_code
def yX2_spread : MethodName := ⟨RX2, "spread", "(LFortyJars$Yard;I)V"⟩
abbrev cX2_isQuiet : ByteArray := prog_4_method_5_code
def yX2_isQuiet : MethodName := ⟨RX2, "isQuiet", "(II)Z"⟩
abbrev cX2_begin : ByteArray := prog_4_method_6_code
def yX2_begin : MethodName := ⟨RX2, "begin", "(LFortyJars$Yard;I)V"⟩
abbrev cX2_leastIn : ByteArray := prog_4_method_7_code
def yX2_leastIn : MethodName := ⟨RX2, "leastIn", "(I)I"⟩
abbrev cX2_pourOn : ByteArray := prog_4_method_8_code
def yX2_pourOn : MethodName := ⟨RX2, "pourOn", "(LFortyJars$Yard;II)V"⟩
abbrev cX2_canBeLast : ByteArray := prog_4_method_9_code
def yX2_canBeLast : MethodName := ⟨RX2, "canBeLast", "(II)Z"⟩
abbrev cX2_minutesByOil : ByteArray := prog_4_method_10_code
def yX2_minutesByOil : MethodName := ⟨RX2, "minutesByOil", "(LFortyJars$Yard;II)I"⟩
abbrev cX2_offer : ByteArray := prog_4_method_11_code
def yX2_offer : MethodName := ⟨RX2, "offer", "(IIII)V"⟩
def RX3 : String := "FortyJars$Sheets"
def TX3 : u_T := fun k => match k with
  | 0 => ("FortyJars$Sheets", "numbers", "[I", true)
  | 1 => ("FortyJars$Sheets", "lanes", "[I", true)
  | _ => ("FortyJars$Sheets", "lengths", "[I", true)
def tyX3 : Nat → FieldType := fun k => match k with
  | 0 => .array .int
  | 1 => .array .int
  | _ => .array .int
theorem nmX3 : ∀ a, a < 3 → ∀ b, b < 3 → a ≠ b → (TX3 a).2.1 ≠ (TX3 b).2.1 := by decide +kernel
theorem tyX3_ok : ∀ k, k < 3 → parseFieldDescriptor (TX3 k).2.2.1 = some (tyX3 k) := by decide +kernel
abbrev cX3_init : ByteArray := prog_5_method_1_code
def yX3_init : MethodName := ⟨RX3, "<init>", "()V"⟩
abbrev cX3_isSheet : ByteArray := prog_5_method_2_code
def yX3_isSheet : MethodName := ⟨RX3, "isSheet", "(I)Z"⟩
abbrev cX3_isLane : ByteArray := prog_5_method_3_code
def yX3_isLane : MethodName := ⟨RX3, "isLane", "(I)Z"⟩
abbrev cX3_isBare : ByteArray := prog_5_method_4_code
def yX3_isBare : MethodName := ⟨RX3, "isBare", "(I)Z"⟩
abbrev cX3_areAlike : ByteArray := prog_5_method_5_code
def yX3_areAlike : MethodName := ⟨RX3, "areAlike", "(II)Z"⟩
abbrev cX3_faultOfRow : ByteArray := prog_5_method_6_code
def yX3_faultOfRow : MethodName := ⟨RX3, "faultOfRow", "(II)I"⟩
abbrev cX3_hasCell : ByteArray := prog_5_method_7_code
def yX3_hasCell : MethodName := ⟨RX3, "hasCell", "(II)Z"⟩
abbrev cX3_hasCells : ByteArray := prog_5_method_8_code
def yX3_hasCells : MethodName := ⟨RX3, "hasCells", "(III)Z"⟩
abbrev cX3_renew : ByteArray := prog_5_method_9_code
def yX3_renew : MethodName := ⟨RX3, "renew", "(III)V"⟩
abbrev cX3_bare : ByteArray := prog_5_method_10_code
def yX3_bare : MethodName := ⟨RX3, "bare", "(I)V"⟩
abbrev cX3_at : ByteArray := prog_5_method_11_code
def yX3_at : MethodName := ⟨RX3, "at", "(II)I"⟩
abbrev cX3_write : ByteArray := prog_5_method_12_code
def yX3_write : MethodName := ⟨RX3, "write", "(III)V"⟩
abbrev cX3_cut : ByteArray := prog_5_method_13_code
def yX3_cut : MethodName := ⟨RX3, "cut", "(II)I"⟩
abbrev cX3_move : ByteArray := prog_5_method_14_code
def yX3_move : MethodName := ⟨RX3, "move", "(IIIII)V"⟩
abbrev cX3_lift : ByteArray := prog_5_method_15_code
def yX3_lift : MethodName := ⟨RX3, "lift", "(III[I)V"⟩
def RX4 : String := "FortyJars$Walk"
def TX4 : u_T := fun k => match k with
  | 0 => ("FortyJars$Walk", "minutes", "I", false)
  | 1 => ("FortyJars$Walk", "firstWrong", "I", false)
  | 2 => ("FortyJars$Walk", "firstHeard", "I", false)
  | 3 => ("FortyJars$Walk", "dealt", "I", false)
  | 4 => ("FortyJars$Walk", "left", "I", false)
  | 5 => ("FortyJars$Walk", "at", "I", false)
  | _ => ("FortyJars$Walk", "couldHear", "I", false)
def tyX4 : Nat → FieldType := fun k => match k with
  | 0 => .int
  | 1 => .int
  | 2 => .int
  | 3 => .int
  | 4 => .int
  | 5 => .int
  | _ => .int
theorem nmX4 : ∀ a, a < 7 → ∀ b, b < 7 → a ≠ b → (TX4 a).2.1 ≠ (TX4 b).2.1 := by decide +kernel
theorem tyX4_ok : ∀ k, k < 7 → parseFieldDescriptor (TX4 k).2.2.1 = some (tyX4 k) := by decide +kernel
abbrev cX4_init : ByteArray := prog_6_method_1_code
def yX4_init : MethodName := ⟨RX4, "<init>", "()V"⟩
abbrev cX4_go : ByteArray := prog_6_method_2_code
def yX4_go : MethodName := ⟨RX4, "go", "(LFortyJars$Yard;[II)V"⟩
abbrev cX4_stands : ByteArray := prog_6_method_3_code
def yX4_stands : MethodName := ⟨RX4, "stands", "(I)Z"⟩
abbrev cX4_fill : ByteArray := prog_6_method_4_code
def yX4_fill : MethodName := ⟨RX4, "fill", "(LFortyJars$Yard;I)V"⟩
abbrev cX4_walkTo : ByteArray := prog_6_method_5_code
def yX4_walkTo : MethodName := ⟨RX4, "walkTo", "(LFortyJars$Yard;I)V"⟩
abbrev cX4_pour : ByteArray := prog_6_method_6_code
def yX4_pour : MethodName := ⟨RX4, "pour", "(LFortyJars$Yard;II)V"⟩
def RX5 : String := "FortyJars$Yard"
def TX5 : u_T := fun k => match k with
  | 0 => ("FortyJars$Yard", "cells", "I", false)
  | 1 => ("FortyJars$Yard", "men", "I", false)
  | 2 => ("FortyJars$Yard", "oils", "I", false)
  | 3 => ("FortyJars$Yard", "asleep", "I", false)
  | 4 => ("FortyJars$Yard", "canHolds", "I", false)
  | 5 => ("FortyJars$Yard", "sign", "I", false)
  | 6 => ("FortyJars$Yard", "inCell", "[I", true)
  | 7 => ("FortyJars$Yard", "kind", "[I", true)
  | 8 => ("FortyJars$Yard", "ear", "[I", true)
  | 9 => ("FortyJars$Yard", "manCell", "[I", true)
  | 10 => ("FortyJars$Yard", "oilCell", "[I", true)
  | 11 => ("FortyJars$Yard", "rowOf", "[I", true)
  | _ => ("FortyJars$Yard", "acrossOf", "[I", true)
def tyX5 : Nat → FieldType := fun k => match k with
  | 0 => .int
  | 1 => .int
  | 2 => .int
  | 3 => .int
  | 4 => .int
  | 5 => .int
  | 6 => .array .int
  | 7 => .array .int
  | 8 => .array .int
  | 9 => .array .int
  | 10 => .array .int
  | 11 => .array .int
  | _ => .array .int
theorem nmX5 : ∀ a, a < 13 → ∀ b, b < 13 → a ≠ b → (TX5 a).2.1 ≠ (TX5 b).2.1 := by decide +kernel
theorem tyX5_ok : ∀ k, k < 13 → parseFieldDescriptor (TX5 k).2.2.1 = some (tyX5 k) := by decide +kernel
abbrev cX5_init : ByteArray := prog_7_method_1_code
def yX5_init : MethodName := ⟨RX5, "<init>", "()V"⟩
abbrev cX5_stands : ByteArray := prog_7_method_2_code
def yX5_stands : MethodName := ⟨RX5, "stands", "()Z"⟩
abbrev cX5_isCell : ByteArray := prog_7_method_3_code
def yX5_isCell : MethodName := ⟨RX5, "isCell", "(I)Z"⟩
abbrev cX5_isMan : ByteArray := prog_7_method_4_code
def yX5_isMan : MethodName := ⟨RX5, "isMan", "(I)Z"⟩
abbrev cX5_sleeps : ByteArray := prog_7_method_5_code
def yX5_sleeps : MethodName := ⟨RX5, "sleeps", "(I)Z"⟩
abbrev cX5_readText : ByteArray := prog_7_method_6_code
def yX5_readText : MethodName := ⟨RX5, "readText", "([II)I"⟩
abbrev cX5_clear : ByteArray := prog_7_method_7_code
def yX5_clear : MethodName := ⟨RX5, "clear", "()V"⟩
abbrev cX5_codeAt : ByteArray := prog_7_method_8_code
def yX5_codeAt : MethodName := ⟨RX5, "codeAt", "([III)I"⟩
abbrev cX5_readCell : ByteArray := prog_7_method_9_code
def yX5_readCell : MethodName := ⟨RX5, "readCell", "([III)I"⟩
abbrev cX5_kindOf : ByteArray := prog_7_method_10_code
def yX5_kindOf : MethodName := ⟨RX5, "kindOf", "(I)I"⟩
abbrev cX5_addOil : ByteArray := prog_7_method_11_code
def yX5_addOil : MethodName := ⟨RX5, "addOil", "()V"⟩
abbrev cX5_addMan : ByteArray := prog_7_method_12_code
def yX5_addMan : MethodName := ⟨RX5, "addMan", "(II)V"⟩
abbrev cX5_addCell : ByteArray := prog_7_method_13_code
def yX5_addCell : MethodName := ⟨RX5, "addCell", "(II)V"⟩
abbrev cX5_apart : ByteArray := prog_7_method_14_code
def yX5_apart : MethodName := ⟨RX5, "apart", "(II)I"⟩
abbrev cX5_reach : ByteArray := prog_7_method_15_code
def yX5_reach : MethodName := ⟨RX5, "reach", "(II)I"⟩
abbrev cX5_hearersAt : ByteArray := prog_7_method_16_code
def yX5_hearersAt : MethodName := ⟨RX5, "hearersAt", "(I)I"⟩
abbrev cX5_areSteps : ByteArray := prog_7_method_17_code
def yX5_areSteps : MethodName := ⟨RX5, "areSteps", "([II)Z"⟩
abbrev cX5_isOil : ByteArray := prog_7_method_18_code
def yX5_isOil : MethodName := ⟨RX5, "isOil", "(I)Z"⟩
def RX6 : String := "FortyJars"
def TX6 : u_T := fun k => match k with
  | 0 => ("FortyJars", "sheets", "LFortyJars$Sheets;", true)
  | 1 => ("FortyJars", "readings", "LFortyJars$Readings;", true)
  | 2 => ("FortyJars", "walk", "LFortyJars$Walk;", true)
  | 3 => ("FortyJars", "order", "LFortyJars$Order;", true)
  | 4 => ("FortyJars", "search", "LFortyJars$Search;", true)
  | 5 => ("FortyJars", "taken", "[I", true)
  | 6 => ("FortyJars", "yard", "LFortyJars$Yard;", false)
  | 7 => ("FortyJars", "spare", "LFortyJars$Yard;", false)
  | 8 => ("FortyJars", "traced", "I", false)
  | _ => ("FortyJars", "lastFault", "I", false)
def tyX6 : Nat → FieldType := fun k => match k with
  | 0 => .object "FortyJars$Sheets"
  | 1 => .object "FortyJars$Readings"
  | 2 => .object "FortyJars$Walk"
  | 3 => .object "FortyJars$Order"
  | 4 => .object "FortyJars$Search"
  | 5 => .array .int
  | 6 => .object "FortyJars$Yard"
  | 7 => .object "FortyJars$Yard"
  | 8 => .int
  | _ => .int
theorem nmX6 : ∀ a, a < 10 → ∀ b, b < 10 → a ≠ b → (TX6 a).2.1 ≠ (TX6 b).2.1 := by decide +kernel
theorem tyX6_ok : ∀ k, k < 10 → parseFieldDescriptor (TX6 k).2.2.1 = some (tyX6 k) := by decide +kernel
abbrev cX6_init : ByteArray := prog_1_method_1_code
def yX6_init : MethodName := ⟨RX6, "<init>", "()V"⟩
abbrev cX6_yard : ByteArray := prog_1_method_2_code
def yX6_yard : MethodName := ⟨RX6, "yard", "(IIII)I"⟩
abbrev cX6_takeText : ByteArray := prog_1_method_3_code
def yX6_takeText : MethodName := ⟨RX6, "takeText", "(I)I"⟩
abbrev cX6_inside : ByteArray := prog_1_method_4_code
def yX6_inside : MethodName := ⟨RX6, "inside", "(I)I"⟩
abbrev cX6_ofMan : ByteArray := prog_1_method_5_code
def yX6_ofMan : MethodName := ⟨RX6, "ofMan", "(II)I"⟩
abbrev cX6_far : ByteArray := prog_1_method_6_code
def yX6_far : MethodName := ⟨RX6, "far", "(II)I"⟩
abbrev cX6_can : ByteArray := prog_1_method_7_code
def yX6_can : MethodName := ⟨RX6, "can", "(I)I"⟩
abbrev cX6_delay : ByteArray := prog_1_method_8_code
def yX6_delay : MethodName := ⟨RX6, "delay", "(I)I"⟩
abbrev cX6_doze : ByteArray := prog_1_method_9_code
def yX6_doze : MethodName := ⟨RX6, "doze", "(IZ)I"⟩
abbrev cX6_ears : ByteArray := prog_1_method_10_code
def yX6_ears : MethodName := ⟨RX6, "ears", "(I)I"⟩
abbrev cX6_plan : ByteArray := prog_1_method_11_code
def yX6_plan : MethodName := ⟨RX6, "plan", "(IIIII)I"⟩
abbrev cX6_walkPlan : ByteArray := prog_1_method_12_code
def yX6_walkPlan : MethodName := ⟨RX6, "walkPlan", "(IIIIZ)I"⟩
abbrev cX6_quiet : ByteArray := prog_1_method_13_code
def yX6_quiet : MethodName := ⟨RX6, "quiet", "(I)I"⟩
abbrev cX6_stuck : ByteArray := prog_1_method_14_code
def yX6_stuck : MethodName := ⟨RX6, "stuck", "()I"⟩
abbrev cX6_soonest : ByteArray := prog_1_method_15_code
def yX6_soonest : MethodName := ⟨RX6, "soonest", "()I"⟩
abbrev cX6_most : ByteArray := prog_1_method_16_code
def yX6_most : MethodName := ⟨RX6, "most", "()I"⟩
abbrev cX6_without : ByteArray := prog_1_method_17_code
def yX6_without : MethodName := ⟨RX6, "without", "(I)I"⟩
abbrev cX6_reading : ByteArray := prog_1_method_18_code
def yX6_reading : MethodName := ⟨RX6, "reading", "(IIZ)I"⟩
abbrev cX6_back : ByteArray := prog_1_method_19_code
def yX6_back : MethodName := ⟨RX6, "back", "(I)I"⟩
abbrev cX6_holds : ByteArray := prog_1_method_20_code
def yX6_holds : MethodName := ⟨RX6, "holds", "()I"⟩
abbrev cX6_hearing : ByteArray := prog_1_method_21_code
def yX6_hearing : MethodName := ⟨RX6, "hearing", "(I)I"⟩
abbrev cX6_kinds : ByteArray := prog_1_method_22_code
def yX6_kinds : MethodName := ⟨RX6, "kinds", "(I)I"⟩
abbrev cX6_odds : ByteArray := prog_1_method_23_code
def yX6_odds : MethodName := ⟨RX6, "odds", "(IIIII)J"⟩
abbrev cX6_sheet : ByteArray := prog_1_method_24_code
def yX6_sheet : MethodName := ⟨RX6, "sheet", "(III)I"⟩
abbrev cX6_lose : ByteArray := prog_1_method_25_code
def yX6_lose : MethodName := ⟨RX6, "lose", "(I)I"⟩
abbrev cX6_put : ByteArray := prog_1_method_26_code
def yX6_put : MethodName := ⟨RX6, "put", "(III)I"⟩
abbrev cX6_cell : ByteArray := prog_1_method_27_code
def yX6_cell : MethodName := ⟨RX6, "cell", "(III)J"⟩
abbrev cX6_copy : ByteArray := prog_1_method_28_code
def yX6_copy : MethodName := ⟨RX6, "copy", "(IIIII)I"⟩
abbrev cX6_tell : ByteArray := prog_1_method_29_code
def yX6_tell : MethodName := ⟨RX6, "tell", "(I)I"⟩
abbrev cX6_manTells : ByteArray := prog_1_method_30_code
def yX6_manTells : MethodName := ⟨RX6, "manTells", "(I)I"⟩
abbrev cX6_watchfulTells : ByteArray := prog_1_method_31_code
def yX6_watchfulTells : MethodName := ⟨RX6, "watchfulTells", "(I)I"⟩
abbrev cX6_chiefTells : ByteArray := prog_1_method_32_code
def yX6_chiefTells : MethodName := ⟨RX6, "chiefTells", "(I)I"⟩
abbrev cX6_ask : ByteArray := prog_1_method_33_code
def yX6_ask : MethodName := ⟨RX6, "ask", "(I)I"⟩
abbrev cX6_leaveTrace : ByteArray := prog_1_method_34_code
def yX6_leaveTrace : MethodName := ⟨RX6, "leaveTrace", "(I)V"⟩
abbrev cX6_as : ByteArray := prog_1_method_35_code
def yX6_as : MethodName := ⟨RX6, "as", "(II)I"⟩
abbrev cX6_trace : ByteArray := prog_1_method_36_code
def yX6_trace : MethodName := ⟨RX6, "trace", "()I"⟩
abbrev cX6_fault : ByteArray := prog_1_method_37_code
def yX6_fault : MethodName := ⟨RX6, "fault", "()I"⟩
abbrev cX6_many : ByteArray := prog_1_method_38_code
def yX6_many : MethodName := ⟨RX6, "many", "(I)I"⟩
abbrev cX6_faulty : ByteArray := prog_1_method_39_code
def yX6_faulty : MethodName := ⟨RX6, "faulty", "(I)I"⟩
def RX7 : String := "FortyJarsModel"
def TX7 : u_T := fun k => match k with
  | 0 => ("FortyJarsModel", "fault", "I", false)
  | 1 => ("FortyJarsModel", "high", "I", false)
  | 2 => ("FortyJarsModel", "wide", "I", false)
  | 3 => ("FortyJarsModel", "hasIn", "[I", true)
  | 4 => ("FortyJarsModel", "men", "I", false)
  | 5 => ("FortyJarsModel", "kindOf", "[I", true)
  | 6 => ("FortyJarsModel", "earOf", "[I", true)
  | 7 => ("FortyJarsModel", "cellOfMan", "[I", true)
  | 8 => ("FortyJarsModel", "oils", "I", false)
  | 9 => ("FortyJarsModel", "cellOfOil", "[I", true)
  | 10 => ("FortyJarsModel", "canHolds", "I", false)
  | 11 => ("FortyJarsModel", "signIn", "I", false)
  | 12 => ("FortyJarsModel", "sleeping", "I", false)
  | 13 => ("FortyJarsModel", "readAt", "I", false)
  | 14 => ("FortyJarsModel", "readHigh", "I", false)
  | 15 => ("FortyJarsModel", "readWide", "I", false)
  | 16 => ("FortyJarsModel", "readMen", "I", false)
  | 17 => ("FortyJarsModel", "readOils", "I", false)
  | 18 => ("FortyJarsModel", "readIn", "[I", true)
  | 19 => ("FortyJarsModel", "readKind", "[I", true)
  | 20 => ("FortyJarsModel", "readEar", "[I", true)
  | 21 => ("FortyJarsModel", "readCell", "[I", true)
  | 22 => ("FortyJarsModel", "readOil", "[I", true)
  | 23 => ("FortyJarsModel", "isAt", "I", false)
  | 24 => ("FortyJarsModel", "inCan", "I", false)
  | 25 => ("FortyJarsModel", "standing", "I", false)
  | 26 => ("FortyJarsModel", "minutes", "I", false)
  | 27 => ("FortyJarsModel", "firstWrong", "I", false)
  | 28 => ("FortyJarsModel", "firstHeard", "I", false)
  | 29 => ("FortyJarsModel", "quietRow", "[I", true)
  | 30 => ("FortyJarsModel", "quietMany", "I", false)
  | 31 => ("FortyJarsModel", "soonIn", "[I", true)
  | 32 => ("FortyJarsModel", "readings", "I", false)
  | 33 => ("FortyJarsModel", "readingOf", "[I", true)
  | 34 => ("FortyJarsModel", "readingAt", "[I", true)
  | 35 => ("FortyJarsModel", "readingWas", "[Z", true)
  | 36 => ("FortyJarsModel", "sheetSize", "[I", true)
  | 37 => ("FortyJarsModel", "sheetLane", "[I", true)
  | 38 => ("FortyJarsModel", "sheet", "[I", true)
  | 39 => ("FortyJarsModel", "hands", "[I", true)
  | _ => ("FortyJarsModel", "traceNow", "I", false)
def tyX7 : Nat → FieldType := fun k => match k with
  | 0 => .int
  | 1 => .int
  | 2 => .int
  | 3 => .array .int
  | 4 => .int
  | 5 => .array .int
  | 6 => .array .int
  | 7 => .array .int
  | 8 => .int
  | 9 => .array .int
  | 10 => .int
  | 11 => .int
  | 12 => .int
  | 13 => .int
  | 14 => .int
  | 15 => .int
  | 16 => .int
  | 17 => .int
  | 18 => .array .int
  | 19 => .array .int
  | 20 => .array .int
  | 21 => .array .int
  | 22 => .array .int
  | 23 => .int
  | 24 => .int
  | 25 => .int
  | 26 => .int
  | 27 => .int
  | 28 => .int
  | 29 => .array .int
  | 30 => .int
  | 31 => .array .int
  | 32 => .int
  | 33 => .array .int
  | 34 => .array .int
  | 35 => .array .boolean
  | 36 => .array .int
  | 37 => .array .int
  | 38 => .array .int
  | 39 => .array .int
  | _ => .int
theorem nmX7 : ∀ a, a < 41 → ∀ b, b < 41 → a ≠ b → (TX7 a).2.1 ≠ (TX7 b).2.1 := by decide +kernel
theorem tyX7_ok : ∀ k, k < 41 → parseFieldDescriptor (TX7 k).2.2.1 = some (tyX7 k) := by decide +kernel
abbrev cX7_init : ByteArray := prog_9_method_1_code
def yX7_init : MethodName := ⟨RX7, "<init>", "()V"⟩
abbrev cX7_in : ByteArray := prog_9_method_2_code
def yX7_in : MethodName := ⟨RX7, "in", "(JJJ)Z"⟩
abbrev cX7_lost : ByteArray := prog_9_method_3_code
def yX7_lost : MethodName := ⟨RX7, "lost", "()J"⟩
abbrev cX7_isIn : ByteArray := prog_9_method_4_code
def yX7_isIn : MethodName := ⟨RX7, "isIn", "(II)Z"⟩
abbrev cX7_bits : ByteArray := prog_9_method_5_code
def yX7_bits : MethodName := ⟨RX7, "bits", "(I)I"⟩
abbrev cX7_told : ByteArray := prog_9_method_6_code
def yX7_told : MethodName := ⟨RX7, "told", "(JJI)J"⟩
abbrev cX7_refused : ByteArray := prog_9_method_7_code
def yX7_refused : MethodName := ⟨RX7, "refused", "(I)I"⟩
abbrev cX7_failed : ByteArray := prog_9_method_8_code
def yX7_failed : MethodName := ⟨RX7, "failed", "(I)I"⟩
abbrev cX7_failedLong : ByteArray := prog_9_method_9_code
def yX7_failedLong : MethodName := ⟨RX7, "failedLong", "(I)J"⟩
abbrev cX7_noSpot : ByteArray := prog_9_method_10_code
def yX7_noSpot : MethodName := ⟨RX7, "noSpot", "(I)Z"⟩
abbrev cX7_noMan : ByteArray := prog_9_method_11_code
def yX7_noMan : MethodName := ⟨RX7, "noMan", "(I)Z"⟩
abbrev cX7_all : ByteArray := prog_9_method_12_code
def yX7_all : MethodName := ⟨RX7, "all", "()I"⟩
abbrev cX7_codeAt : ByteArray := prog_9_method_13_code
def yX7_codeAt : MethodName := ⟨RX7, "codeAt", "(II)I"⟩
abbrev cX7_figure : ByteArray := prog_9_method_14_code
def yX7_figure : MethodName := ⟨RX7, "figure", "(IIII)I"⟩
abbrev cX7_readsMan : ByteArray := prog_9_method_15_code
def yX7_readsMan : MethodName := ⟨RX7, "readsMan", "(IIII)Z"⟩
abbrev cX7_readsCell : ByteArray := prog_9_method_16_code
def yX7_readsCell : MethodName := ⟨RX7, "readsCell", "(III)Z"⟩
abbrev cX7_readsYard : ByteArray := prog_9_method_17_code
def yX7_readsYard : MethodName := ⟨RX7, "readsYard", "(II)Z"⟩
abbrev cX7_cellsBarred : ByteArray := prog_9_method_18_code
def yX7_cellsBarred : MethodName := ⟨RX7, "cellsBarred", "(IIIJ)I"⟩
abbrev cX7_yard : ByteArray := prog_9_method_19_code
def yX7_yard : MethodName := ⟨RX7, "yard", "(IIII)I"⟩
abbrev cX7_inside : ByteArray := prog_9_method_20_code
def yX7_inside : MethodName := ⟨RX7, "inside", "(I)I"⟩
abbrev cX7_hearsOf : ByteArray := prog_9_method_21_code
def yX7_hearsOf : MethodName := ⟨RX7, "hearsOf", "(I)I"⟩
abbrev cX7_ofMan : ByteArray := prog_9_method_22_code
def yX7_ofMan : MethodName := ⟨RX7, "ofMan", "(II)I"⟩
abbrev cX7_farOf : ByteArray := prog_9_method_23_code
def yX7_farOf : MethodName := ⟨RX7, "farOf", "(II)I"⟩
abbrev cX7_far : ByteArray := prog_9_method_24_code
def yX7_far : MethodName := ⟨RX7, "far", "(II)I"⟩
abbrev cX7_can : ByteArray := prog_9_method_25_code
def yX7_can : MethodName := ⟨RX7, "can", "(I)I"⟩
abbrev cX7_delay : ByteArray := prog_9_method_26_code
def yX7_delay : MethodName := ⟨RX7, "delay", "(I)I"⟩
abbrev cX7_doze : ByteArray := prog_9_method_27_code
def yX7_doze : MethodName := ⟨RX7, "doze", "(IZ)I"⟩
abbrev cX7_hearersAt : ByteArray := prog_9_method_28_code
def yX7_hearersAt : MethodName := ⟨RX7, "hearersAt", "(II)I"⟩
abbrev cX7_ears : ByteArray := prog_9_method_29_code
def yX7_ears : MethodName := ⟨RX7, "ears", "(I)I"⟩
abbrev cX7_noStep : ByteArray := prog_9_method_30_code
def yX7_noStep : MethodName := ⟨RX7, "noStep", "(I)Z"⟩
abbrev cX7_goPlan : ByteArray := prog_9_method_31_code
def yX7_goPlan : MethodName := ⟨RX7, "goPlan", "(II)V"⟩
abbrev cX7_planBarred : ByteArray := prog_9_method_32_code
def yX7_planBarred : MethodName := ⟨RX7, "planBarred", "(IIIIZ)I"⟩
abbrev cX7_plan : ByteArray := prog_9_method_33_code
def yX7_plan : MethodName := ⟨RX7, "plan", "(IIIII)I"⟩
abbrev cX7_layQuiet : ByteArray := prog_9_method_34_code
def yX7_layQuiet : MethodName := ⟨RX7, "layQuiet", "()I"⟩
abbrev cX7_quiet : ByteArray := prog_9_method_35_code
def yX7_quiet : MethodName := ⟨RX7, "quiet", "(I)I"⟩
abbrev cX7_stuck : ByteArray := prog_9_method_36_code
def yX7_stuck : MethodName := ⟨RX7, "stuck", "()I"⟩
abbrev cX7_cellOfPlace : ByteArray := prog_9_method_37_code
def yX7_cellOfPlace : MethodName := ⟨RX7, "cellOfPlace", "(I)I"⟩
abbrev cX7_stateOf : ByteArray := prog_9_method_38_code
def yX7_stateOf : MethodName := ⟨RX7, "stateOf", "(III)I"⟩
abbrev cX7_goOn : ByteArray := prog_9_method_39_code
def yX7_goOn : MethodName := ⟨RX7, "goOn", "(I)Z"⟩
abbrev cX7_laySoon : ByteArray := prog_9_method_40_code
def yX7_laySoon : MethodName := ⟨RX7, "laySoon", "(I)V"⟩
abbrev cX7_soonestFor : ByteArray := prog_9_method_41_code
def yX7_soonestFor : MethodName := ⟨RX7, "soonestFor", "(I)I"⟩
abbrev cX7_soonestOf : ByteArray := prog_9_method_42_code
def yX7_soonestOf : MethodName := ⟨RX7, "soonestOf", "(I)I"⟩
abbrev cX7_soonest : ByteArray := prog_9_method_43_code
def yX7_soonest : MethodName := ⟨RX7, "soonest", "()I"⟩
abbrev cX7_most : ByteArray := prog_9_method_44_code
def yX7_most : MethodName := ⟨RX7, "most", "()I"⟩
abbrev cX7_without : ByteArray := prog_9_method_45_code
def yX7_without : MethodName := ⟨RX7, "without", "(I)I"⟩
abbrev cX7_reading : ByteArray := prog_9_method_46_code
def yX7_reading : MethodName := ⟨RX7, "reading", "(IIZ)I"⟩
abbrev cX7_back : ByteArray := prog_9_method_47_code
def yX7_back : MethodName := ⟨RX7, "back", "(I)I"⟩
abbrev cX7_areSo : ByteArray := prog_9_method_48_code
def yX7_areSo : MethodName := ⟨RX7, "areSo", "()Z"⟩
abbrev cX7_holds : ByteArray := prog_9_method_49_code
def yX7_holds : MethodName := ⟨RX7, "holds", "()I"⟩
abbrev cX7_hearing : ByteArray := prog_9_method_50_code
def yX7_hearing : MethodName := ⟨RX7, "hearing", "(I)I"⟩
abbrev cX7_kinds : ByteArray := prog_9_method_51_code
def yX7_kinds : MethodName := ⟨RX7, "kinds", "(I)I"⟩
abbrev cX7_odds : ByteArray := prog_9_method_52_code
def yX7_odds : MethodName := ⟨RX7, "odds", "(IIIII)J"⟩
abbrev cX7_noSheet : ByteArray := prog_9_method_53_code
def yX7_noSheet : MethodName := ⟨RX7, "noSheet", "(I)Z"⟩
abbrev cX7_sheet : ByteArray := prog_9_method_54_code
def yX7_sheet : MethodName := ⟨RX7, "sheet", "(III)I"⟩
abbrev cX7_lose : ByteArray := prog_9_method_55_code
def yX7_lose : MethodName := ⟨RX7, "lose", "(I)I"⟩
abbrev cX7_noCell : ByteArray := prog_9_method_56_code
def yX7_noCell : MethodName := ⟨RX7, "noCell", "(II)I"⟩
abbrev cX7_put : ByteArray := prog_9_method_57_code
def yX7_put : MethodName := ⟨RX7, "put", "(III)I"⟩
abbrev cX7_cell : ByteArray := prog_9_method_58_code
def yX7_cell : MethodName := ⟨RX7, "cell", "(III)J"⟩
abbrev cX7_isBeyond : ByteArray := prog_9_method_59_code
def yX7_isBeyond : MethodName := ⟨RX7, "isBeyond", "(IJI)Z"⟩
abbrev cX7_copy : ByteArray := prog_9_method_60_code
def yX7_copy : MethodName := ⟨RX7, "copy", "(IIIII)I"⟩
abbrev cX7_traced : ByteArray := prog_9_method_61_code
def yX7_traced : MethodName := ⟨RX7, "traced", "(I)V"⟩
abbrev cX7_tell : ByteArray := prog_9_method_62_code
def yX7_tell : MethodName := ⟨RX7, "tell", "(I)I"⟩
abbrev cX7_ask : ByteArray := prog_9_method_63_code
def yX7_ask : MethodName := ⟨RX7, "ask", "(I)I"⟩
abbrev cX7_as : ByteArray := prog_9_method_64_code
def yX7_as : MethodName := ⟨RX7, "as", "(II)I"⟩
abbrev cX7_trace : ByteArray := prog_9_method_65_code
def yX7_trace : MethodName := ⟨RX7, "trace", "()I"⟩
abbrev cX7_fault : ByteArray := prog_9_method_66_code
def yX7_fault : MethodName := ⟨RX7, "fault", "()I"⟩
abbrev cX7_many : ByteArray := prog_9_method_67_code
def yX7_many : MethodName := ⟨RX7, "many", "(I)I"⟩
def RJ6 : String := "java/lang/Integer"
def TJ6 : u_T := fun k => match k with
  | _ => ("", "", "", false)
def tyJ6 : Nat → FieldType := fun k => match k with
  | _ => .int
theorem nmJ6 : ∀ a, a < 0 → ∀ b, b < 0 → a ≠ b → (TJ6 a).2.1 ≠ (TJ6 b).2.1 := by decide +kernel
theorem tyJ6_ok : ∀ k, k < 0 → parseFieldDescriptor (TJ6 k).2.2.1 = some (tyJ6 k) := by decide +kernel
abbrev cJ6_bitCount_0f7a4 : ByteArray := prog_10_method_49_code
def yJ6_bitCount_0f7a4 : MethodName := ⟨RJ6, "bitCount", "(I)I"⟩
def RJ9 : String := "java/lang/Math"
def TJ9 : u_T := fun k => match k with
  | _ => ("", "", "", false)
def tyJ9 : Nat → FieldType := fun k => match k with
  | _ => .int
theorem nmJ9 : ∀ a, a < 0 → ∀ b, b < 0 → a ≠ b → (TJ9 a).2.1 ≠ (TJ9 b).2.1 := by decide +kernel
theorem tyJ9_ok : ∀ k, k < 0 → parseFieldDescriptor (TJ9 k).2.2.1 = some (tyJ9 k) := by decide +kernel
abbrev cJ9_abs_0f7a4 : ByteArray := prog_11_method_59_code
def yJ9_abs_0f7a4 : MethodName := ⟨RJ9, "abs", "(I)I"⟩
abbrev cJ9_min_7cf53 : ByteArray := prog_11_method_69_code
def yJ9_min_7cf53 : MethodName := ⟨RJ9, "min", "(II)I"⟩
def RJ10 : String := "java/lang/System"
def TJ10 : u_T := fun k => match k with
  | _ => ("", "", "", false)
def tyJ10 : Nat → FieldType := fun k => match k with
  | _ => .int
theorem nmJ10 : ∀ a, a < 0 → ∀ b, b < 0 → a ≠ b → (TJ10 a).2.1 ≠ (TJ10 b).2.1 := by decide +kernel
theorem tyJ10_ok : ∀ k, k < 0 → parseFieldDescriptor (TJ10 k).2.2.1 = some (tyJ10 k) := by decide +kernel
def RL : String := "FortyJarsLaw"
abbrev cL_law : ByteArray := code
def yL_law : MethodName := ⟨RL, "law", "([I)Z"⟩
